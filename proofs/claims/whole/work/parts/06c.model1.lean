set_option maxHeartbeats 4000000 in
set_option maxRecDepth 100000 in
theorem c5_in (l : Launch) (D : va_G) (v lo hi : Int32) : Met l yX5_in (ws_ yX5_in cX5_in 3 (some .boolean)) (rmN 0) (va_Pc [.int (v), .int (lo), .int (hi)] (pz D [] (fun H => True))) (Pq (some (.int (bI (inb v lo hi))))) 0 0 (fun _ => False) := by
  refine m_start (by decide) (Nat.le_of_ble_eq_true rfl) ?_
  intro p e s m below meth c hx hb hr hG hown hlocks hml hB ls hl
  have hl : lv_has ls 3 [(0, .int (v)), (1, .int (lo)), (2, .int (hi))] := hl
  obtain ⟨-, hK⟩ := hB
  refine lv_iload_n hx hb dX5_in_0 rfl (lv_at hl 0 rfl) ?_
  refine lv_iload_n hx hb dX5_in_1 rfl (lv_at hl 1 rfl) ?_
  refine lv_icmp_lt (tgt := 14) hx hb dX5_in_2 (by decide) (fun c1 => ?_) (fun c1 => ?_)
  · refine lv_iconst (v := nI 0) hx hb dX5_in_14 (by decide) ?_
    exact e_z (by rw [inb_lo c1]; rfl) hx hb hr hlocks dX5_in_15
  · refine lv_iload_n hx hb dX5_in_5 rfl (lv_at hl 0 rfl) ?_
    refine lv_iload_n hx hb dX5_in_6 rfl (lv_at hl 2 rfl) ?_
    refine lv_icmp_gt (tgt := 14) hx hb dX5_in_7 (by decide) (fun c2 => ?_) (fun c2 => ?_)
    · refine lv_iconst (v := nI 0) hx hb dX5_in_14 (by decide) ?_
      exact e_z (by rw [inb_hi c2]; rfl) hx hb hr hlocks dX5_in_15
    · refine lv_iconst (v := nI 1) hx hb dX5_in_10 (by decide) ?_
      refine lv_goto (tgt := 15) hx hb dX5_in_11 (by decide) ?_
      exact e_z (by rw [inb_in c1 c2]; rfl) hx hb hr hlocks dX5_in_15
set_option maxHeartbeats 4000000 in
set_option maxRecDepth 100000 in
theorem c5_isBook (l : Launch) (D : va_G) (v : Int32) : Met l yX5_isBook (ws_ yX5_isBook cX5_isBook 1 (some .boolean)) (rmN 1) (va_Pc [.int (v)] (pz D [] (fun H => True))) (Pq (some (.int (bI (rch 4 v))))) 0 0 (fun _ => False) := by
  refine m_start (by decide) (Nat.le_of_ble_eq_true rfl) ?_
  intro p e s m below meth c hx hb hr hG hown hlocks hml hB ls hl
  have hl : lv_has ls 1 [(0, .int (v))] := hl
  obtain ⟨-, hK⟩ := hB
  refine lv_iload_n hx hb dX5_isBook_0 rfl (lv_at hl 0 rfl) ?_
  refine lv_iconst (v := nI 0) hx hb dX5_isBook_1 (by decide) ?_
  refine lv_iconst (v := nI 3) hx hb dX5_isBook_2 (by decide) ?_
  refine k1_S hx hb hml hown hG cs_X5_42 (c5_in l D (v) (nI (0)) (nI (3))) (by decide) (pzS (hK.sub (tys' := []) [] rfl) trivial) rfl hl.1 rfl (Nat.le_of_ble_eq_true rfl) dX5_isBook_3 ⟨Nat.zero_le _, Nat.zero_le _⟩ rfl ?_
  exact e_z (by rw [← inb_rch (n := 4) (by decide) v 3 (by decide)]; rfl) hx hb hr hlocks dX5_isBook_6
set_option maxHeartbeats 4000000 in
set_option maxRecDepth 100000 in
theorem c5_isPlain (l : Launch) (D : va_G) (v : Int32) : Met l yX5_isPlain (ws_ yX5_isPlain cX5_isPlain 1 (some .boolean)) (rmN 1) (va_Pc [.int (v)] (pz D [] (fun H => True))) (Pq (some (.int (bI (rch 2 v))))) 0 0 (fun _ => False) := by
  refine m_start (by decide) (Nat.le_of_ble_eq_true rfl) ?_
  intro p e s m below meth c hx hb hr hG hown hlocks hml hB ls hl
  have hl : lv_has ls 1 [(0, .int (v))] := hl
  obtain ⟨-, hK⟩ := hB
  refine lv_iload_n hx hb dX5_isPlain_0 rfl (lv_at hl 0 rfl) ?_
  refine lv_iconst (v := nI 0) hx hb dX5_isPlain_1 (by decide) ?_
  refine lv_iconst (v := nI 1) hx hb dX5_isPlain_2 (by decide) ?_
  refine k1_S hx hb hml hown hG cs_X5_42 (c5_in l D (v) (nI (0)) (nI (1))) (by decide) (pzS (hK.sub (tys' := []) [] rfl) trivial) rfl hl.1 rfl (Nat.le_of_ble_eq_true rfl) dX5_isPlain_3 ⟨Nat.zero_le _, Nat.zero_le _⟩ rfl ?_
  exact e_z (by rw [← inb_rch (n := 2) (by decide) v 1 (by decide)]; rfl) hx hb hr hlocks dX5_isPlain_6
set_option maxHeartbeats 4000000 in
set_option maxRecDepth 100000 in
theorem c5_isCursor (l : Launch) (D : va_G) (v : Int32) : Met l yX5_isCursor (ws_ yX5_isCursor cX5_isCursor 1 (some .boolean)) (rmN 1) (va_Pc [.int (v)] (pz D [] (fun H => True))) (Pq (some (.int (bI (rch 3 v))))) 0 0 (fun _ => False) := by
  refine m_start (by decide) (Nat.le_of_ble_eq_true rfl) ?_
  intro p e s m below meth c hx hb hr hG hown hlocks hml hB ls hl
  have hl : lv_has ls 1 [(0, .int (v))] := hl
  obtain ⟨-, hK⟩ := hB
  refine lv_iload_n hx hb dX5_isCursor_0 rfl (lv_at hl 0 rfl) ?_
  refine lv_iconst (v := nI 0) hx hb dX5_isCursor_1 (by decide) ?_
  refine lv_iconst (v := nI 2) hx hb dX5_isCursor_2 (by decide) ?_
  refine k1_S hx hb hml hown hG cs_X5_42 (c5_in l D (v) (nI (0)) (nI (2))) (by decide) (pzS (hK.sub (tys' := []) [] rfl) trivial) rfl hl.1 rfl (Nat.le_of_ble_eq_true rfl) dX5_isCursor_3 ⟨Nat.zero_le _, Nat.zero_le _⟩ rfl ?_
  exact e_z (by rw [← inb_rch (n := 3) (by decide) v 2 (by decide)]; rfl) hx hb hr hlocks dX5_isCursor_6
set_option maxHeartbeats 4000000 in
set_option maxRecDepth 100000 in
theorem c5_thrown (l : Launch) (D : va_G) (cI cZ : ClassId) (d : Nat → Nat) (S : St) (th : Int32) : Met l yX5_thrown (ws_ yX5_thrown cX5_thrown 1 (some .int)) (rmN 0) (va_Pc [.ref (d 0)] (pz D [(cI, .int), (cZ, .boolean)] (fun H => MdAt D cI cZ d S th H))) (Pq (some (.int th))) 0 0 (fun _ => False) := by
  refine m_start (by decide) (Nat.le_of_ble_eq_true rfl) ?_
  intro p e s m below meth c hx hb hr hG hown hlocks hml hB ls hl
  have hl : lv_has ls 1 [(0, .ref (d 0))] := hl
  obtain ⟨hB0, hK⟩ := hB
  obtain ⟨K, V, sz, cb, ck, ca, it, ou, hP, hMB, hMC, hMO⟩ := id hB0
  refine lv_aload_n hx hb dX5_thrown_0 rfl (lv_at hl 0 rfl) ?_
  refine gf_X5_39 hx hb hG hown hK hP 0 rfl rfl dX5_thrown_1 ?_
  exact e_i rfl hx hb hr hlocks dX5_thrown_4
set_option maxHeartbeats 4000000 in
set_option maxRecDepth 100000 in
theorem c5_refuse (l : Launch) (D : va_G) (cI cZ : ClassId) (d : Nat → Nat) (S : St) (th : Int32) (k : Nat) (hap : Ap d 9) : Met l yX5_refuse (ws_ yX5_refuse cX5_refuse 2 (some .int)) (rmN 0) (va_Pc [.ref (d 0), .int (nI (k))] (pz D [(cI, .int), (cZ, .boolean)] (fun H => MdAt D cI cZ d S th H))) (Wq (some (.int (nI 0))) (fun H => MdAt D cI cZ d S (nI k) H) (Ao d 9)) 0 0 (Ao d 9) := by
  refine m_start (by decide) (Nat.le_of_ble_eq_true rfl) ?_
  intro p e s m below meth c hx hb hr hG hown hlocks hml hB ls hl
  have hl : lv_has ls 2 [(0, .ref (d 0)), (1, .int (nI (k)))] := hl
  obtain ⟨hB0, hK⟩ := hB
  obtain ⟨K, V, sz, cb, ck, ca, it, ou, hP, hMB, hMC, hMO⟩ := id hB0
  have hD : va_D (Ao d 9) [(d 0, .inr (5, [.ref (d 1), .ref (d 2), .ref (d 3), .int (nI (S.2.1)), .int (th), .ref (d 4), .ref (d 5), .ref (d 6), .ref (d 7), .ref (d 8), .int (nI (S.2.2.2.length))])), (d 1, .inl (cI, (804, .inl K))), (d 2, .inl (cI, (804, .inl V))), (d 3, .inl (cI, (4, .inl sz))), (d 4, .inl (cI, (3, .inl cb))), (d 5, .inl (cI, (3, .inl ck))), (d 6, .inl (cI, (3, .inl ca))), (d 7, .inl (cZ, (3, .inl it))), (d 8, .inl (cI, (6000, .inl ou)))] := hap.D9
  have hS : va_S (Ao d 9) s.heap s.heap [] := va_S.rf
  refine lv_aload_n hx hb dX5_refuse_0 rfl (lv_at hl 0 rfl) ?_
  refine lv_iload_n hx hb dX5_refuse_1 rfl (lv_at hl 1 rfl) ?_
  refine pf_X5_39 hx hb hG hown hK hP hD hS 0 rfl (v := .int (nI (k))) rfl rfl (Nat.le_of_ble_eq_true rfl) dX5_refuse_2 (fun H locs hP hD hS => ?_)
  have hP : va_P D vwCl [(d 0, .inr (5, [.ref (d 1), .ref (d 2), .ref (d 3), .int (nI (S.2.1)), .int (nI (k)), .ref (d 4), .ref (d 5), .ref (d 6), .ref (d 7), .ref (d 8), .int (nI (S.2.2.2.length))])), (d 1, .inl (cI, (804, .inl K))), (d 2, .inl (cI, (804, .inl V))), (d 3, .inl (cI, (4, .inl sz))), (d 4, .inl (cI, (3, .inl cb))), (d 5, .inl (cI, (3, .inl ck))), (d 6, .inl (cI, (3, .inl ca))), (d 7, .inl (cZ, (3, .inl it))), (d 8, .inl (cI, (6000, .inl ou)))] H := hP
  have hD : va_D (Ao d 9) [(d 0, .inr (5, [.ref (d 1), .ref (d 2), .ref (d 3), .int (nI (S.2.1)), .int (nI (k)), .ref (d 4), .ref (d 5), .ref (d 6), .ref (d 7), .ref (d 8), .int (nI (S.2.2.2.length))])), (d 1, .inl (cI, (804, .inl K))), (d 2, .inl (cI, (804, .inl V))), (d 3, .inl (cI, (4, .inl sz))), (d 4, .inl (cI, (3, .inl cb))), (d 5, .inl (cI, (3, .inl ck))), (d 6, .inl (cI, (3, .inl ca))), (d 7, .inl (cZ, (3, .inl it))), (d 8, .inl (cI, (6000, .inl ou)))] := hD
  refine lv_iconst (v := nI 0) hx hb dX5_refuse_5 (by decide) ?_
  exact w_i (PB := fun H => MdAt D cI cZ d S (nI k) H) rfl ⟨K, V, sz, cb, ck, ca, it, ou, hP, hMB, hMC, hMO⟩ hS hx hb hr hlocks dX5_refuse_6
set_option maxHeartbeats 4000000 in
set_option maxRecDepth 100000 in
theorem c5_told (l : Launch) (D : va_G) (cI cZ : ClassId) (d : Nat → Nat) (S : St) (th : Int32) (v : Int32) (hap : Ap d 9) : Met l yX5_told (ws_ yX5_told cX5_told 2 (some .int)) (rmN 0) (va_Pc [.ref (d 0), .int (v)] (pz D [(cI, .int), (cZ, .boolean)] (fun H => MdAt D cI cZ d S th H))) (Wq (some (.int v)) (fun H => MdAt D cI cZ d S (nI 0) H) (Ao d 9)) 0 0 (Ao d 9) := by
  refine m_start (by decide) (Nat.le_of_ble_eq_true rfl) ?_
  intro p e s m below meth c hx hb hr hG hown hlocks hml hB ls hl
  have hl : lv_has ls 2 [(0, .ref (d 0)), (1, .int (v))] := hl
  obtain ⟨hB0, hK⟩ := hB
  obtain ⟨K, V, sz, cb, ck, ca, it, ou, hP, hMB, hMC, hMO⟩ := id hB0
  have hD : va_D (Ao d 9) [(d 0, .inr (5, [.ref (d 1), .ref (d 2), .ref (d 3), .int (nI (S.2.1)), .int (th), .ref (d 4), .ref (d 5), .ref (d 6), .ref (d 7), .ref (d 8), .int (nI (S.2.2.2.length))])), (d 1, .inl (cI, (804, .inl K))), (d 2, .inl (cI, (804, .inl V))), (d 3, .inl (cI, (4, .inl sz))), (d 4, .inl (cI, (3, .inl cb))), (d 5, .inl (cI, (3, .inl ck))), (d 6, .inl (cI, (3, .inl ca))), (d 7, .inl (cZ, (3, .inl it))), (d 8, .inl (cI, (6000, .inl ou)))] := hap.D9
  have hS : va_S (Ao d 9) s.heap s.heap [] := va_S.rf
  refine lv_aload_n hx hb dX5_told_0 rfl (lv_at hl 0 rfl) ?_
  refine lv_iconst (v := nI 0) hx hb dX5_told_1 (by decide) ?_
  refine pf_X5_39 hx hb hG hown hK hP hD hS 0 rfl (v := .int (nI (0))) rfl rfl (Nat.le_of_ble_eq_true rfl) dX5_told_2 (fun H locs hP hD hS => ?_)
  have hP : va_P D vwCl [(d 0, .inr (5, [.ref (d 1), .ref (d 2), .ref (d 3), .int (nI (S.2.1)), .int (nI (0)), .ref (d 4), .ref (d 5), .ref (d 6), .ref (d 7), .ref (d 8), .int (nI (S.2.2.2.length))])), (d 1, .inl (cI, (804, .inl K))), (d 2, .inl (cI, (804, .inl V))), (d 3, .inl (cI, (4, .inl sz))), (d 4, .inl (cI, (3, .inl cb))), (d 5, .inl (cI, (3, .inl ck))), (d 6, .inl (cI, (3, .inl ca))), (d 7, .inl (cZ, (3, .inl it))), (d 8, .inl (cI, (6000, .inl ou)))] H := hP
  have hD : va_D (Ao d 9) [(d 0, .inr (5, [.ref (d 1), .ref (d 2), .ref (d 3), .int (nI (S.2.1)), .int (nI (0)), .ref (d 4), .ref (d 5), .ref (d 6), .ref (d 7), .ref (d 8), .int (nI (S.2.2.2.length))])), (d 1, .inl (cI, (804, .inl K))), (d 2, .inl (cI, (804, .inl V))), (d 3, .inl (cI, (4, .inl sz))), (d 4, .inl (cI, (3, .inl cb))), (d 5, .inl (cI, (3, .inl ck))), (d 6, .inl (cI, (3, .inl ca))), (d 7, .inl (cZ, (3, .inl it))), (d 8, .inl (cI, (6000, .inl ou)))] := hD
  refine lv_iload_n hx hb dX5_told_5 rfl (lv_at hl 1 rfl) ?_
  exact w_i (PB := fun H => MdAt D cI cZ d S (nI 0) H) rfl ⟨K, V, sz, cb, ck, ca, it, ou, hP, hMB, hMC, hMO⟩ hS hx hb hr hlocks dX5_told_6
set_option maxHeartbeats 4000000 in
set_option maxRecDepth 100000 in
theorem c5_says (l : Launch) (D : va_G) (cI cZ : ClassId) (d : Nat → Nat) (S : St) (th : Int32) (v : Bool) (hap : Ap d 9) : Met l yX5_says (ws_ yX5_says cX5_says 2 (some .boolean)) (rmN 0) (va_Pc [.ref (d 0), .int (bI (v))] (pz D [(cI, .int), (cZ, .boolean)] (fun H => MdAt D cI cZ d S th H))) (Wq (some (.int (bI v))) (fun H => MdAt D cI cZ d S (nI 0) H) (Ao d 9)) 0 0 (Ao d 9) := by
  refine m_start (by decide) (Nat.le_of_ble_eq_true rfl) ?_
  intro p e s m below meth c hx hb hr hG hown hlocks hml hB ls hl
  have hl : lv_has ls 2 [(0, .ref (d 0)), (1, .int (bI (v)))] := hl
  obtain ⟨hB0, hK⟩ := hB
  obtain ⟨K, V, sz, cb, ck, ca, it, ou, hP, hMB, hMC, hMO⟩ := id hB0
  have hD : va_D (Ao d 9) [(d 0, .inr (5, [.ref (d 1), .ref (d 2), .ref (d 3), .int (nI (S.2.1)), .int (th), .ref (d 4), .ref (d 5), .ref (d 6), .ref (d 7), .ref (d 8), .int (nI (S.2.2.2.length))])), (d 1, .inl (cI, (804, .inl K))), (d 2, .inl (cI, (804, .inl V))), (d 3, .inl (cI, (4, .inl sz))), (d 4, .inl (cI, (3, .inl cb))), (d 5, .inl (cI, (3, .inl ck))), (d 6, .inl (cI, (3, .inl ca))), (d 7, .inl (cZ, (3, .inl it))), (d 8, .inl (cI, (6000, .inl ou)))] := hap.D9
  have hS : va_S (Ao d 9) s.heap s.heap [] := va_S.rf
  refine lv_aload_n hx hb dX5_says_0 rfl (lv_at hl 0 rfl) ?_
  refine lv_iconst (v := nI 0) hx hb dX5_says_1 (by decide) ?_
  refine pf_X5_39 hx hb hG hown hK hP hD hS 0 rfl (v := .int (nI (0))) rfl rfl (Nat.le_of_ble_eq_true rfl) dX5_says_2 (fun H locs hP hD hS => ?_)
  have hP : va_P D vwCl [(d 0, .inr (5, [.ref (d 1), .ref (d 2), .ref (d 3), .int (nI (S.2.1)), .int (nI (0)), .ref (d 4), .ref (d 5), .ref (d 6), .ref (d 7), .ref (d 8), .int (nI (S.2.2.2.length))])), (d 1, .inl (cI, (804, .inl K))), (d 2, .inl (cI, (804, .inl V))), (d 3, .inl (cI, (4, .inl sz))), (d 4, .inl (cI, (3, .inl cb))), (d 5, .inl (cI, (3, .inl ck))), (d 6, .inl (cI, (3, .inl ca))), (d 7, .inl (cZ, (3, .inl it))), (d 8, .inl (cI, (6000, .inl ou)))] H := hP
  have hD : va_D (Ao d 9) [(d 0, .inr (5, [.ref (d 1), .ref (d 2), .ref (d 3), .int (nI (S.2.1)), .int (nI (0)), .ref (d 4), .ref (d 5), .ref (d 6), .ref (d 7), .ref (d 8), .int (nI (S.2.2.2.length))])), (d 1, .inl (cI, (804, .inl K))), (d 2, .inl (cI, (804, .inl V))), (d 3, .inl (cI, (4, .inl sz))), (d 4, .inl (cI, (3, .inl cb))), (d 5, .inl (cI, (3, .inl ck))), (d 6, .inl (cI, (3, .inl ca))), (d 7, .inl (cZ, (3, .inl it))), (d 8, .inl (cI, (6000, .inl ou)))] := hD
  refine lv_iload_n hx hb dX5_says_5 rfl (lv_at hl 1 rfl) ?_
  exact w_z (PB := fun H => MdAt D cI cZ d S (nI 0) H) rfl ⟨K, V, sz, cb, ck, ca, it, ou, hP, hMB, hMC, hMO⟩ hS hx hb hr hlocks dX5_says_6
set_option maxHeartbeats 4000000 in
set_option maxRecDepth 100000 in
theorem c5_denies (l : Launch) (D : va_G) (cI cZ : ClassId) (d : Nat → Nat) (S : St) (th : Int32) (k : Nat) (hap : Ap d 9) : Met l yX5_denies (ws_ yX5_denies cX5_denies 2 (some .boolean)) (rmN 0) (va_Pc [.ref (d 0), .int (nI (k))] (pz D [(cI, .int), (cZ, .boolean)] (fun H => MdAt D cI cZ d S th H))) (Wq (some (.int (bI false))) (fun H => MdAt D cI cZ d S (nI k) H) (Ao d 9)) 0 0 (Ao d 9) := by
  refine m_start (by decide) (Nat.le_of_ble_eq_true rfl) ?_
  intro p e s m below meth c hx hb hr hG hown hlocks hml hB ls hl
  have hl : lv_has ls 2 [(0, .ref (d 0)), (1, .int (nI (k)))] := hl
  obtain ⟨hB0, hK⟩ := hB
  obtain ⟨K, V, sz, cb, ck, ca, it, ou, hP, hMB, hMC, hMO⟩ := id hB0
  have hD : va_D (Ao d 9) [(d 0, .inr (5, [.ref (d 1), .ref (d 2), .ref (d 3), .int (nI (S.2.1)), .int (th), .ref (d 4), .ref (d 5), .ref (d 6), .ref (d 7), .ref (d 8), .int (nI (S.2.2.2.length))])), (d 1, .inl (cI, (804, .inl K))), (d 2, .inl (cI, (804, .inl V))), (d 3, .inl (cI, (4, .inl sz))), (d 4, .inl (cI, (3, .inl cb))), (d 5, .inl (cI, (3, .inl ck))), (d 6, .inl (cI, (3, .inl ca))), (d 7, .inl (cZ, (3, .inl it))), (d 8, .inl (cI, (6000, .inl ou)))] := hap.D9
  have hS : va_S (Ao d 9) s.heap s.heap [] := va_S.rf
  refine lv_aload_n hx hb dX5_denies_0 rfl (lv_at hl 0 rfl) ?_
  refine lv_iload_n hx hb dX5_denies_1 rfl (lv_at hl 1 rfl) ?_
  refine pf_X5_39 hx hb hG hown hK hP hD hS 0 rfl (v := .int (nI (k))) rfl rfl (Nat.le_of_ble_eq_true rfl) dX5_denies_2 (fun H locs hP hD hS => ?_)
  have hP : va_P D vwCl [(d 0, .inr (5, [.ref (d 1), .ref (d 2), .ref (d 3), .int (nI (S.2.1)), .int (nI (k)), .ref (d 4), .ref (d 5), .ref (d 6), .ref (d 7), .ref (d 8), .int (nI (S.2.2.2.length))])), (d 1, .inl (cI, (804, .inl K))), (d 2, .inl (cI, (804, .inl V))), (d 3, .inl (cI, (4, .inl sz))), (d 4, .inl (cI, (3, .inl cb))), (d 5, .inl (cI, (3, .inl ck))), (d 6, .inl (cI, (3, .inl ca))), (d 7, .inl (cZ, (3, .inl it))), (d 8, .inl (cI, (6000, .inl ou)))] H := hP
  have hD : va_D (Ao d 9) [(d 0, .inr (5, [.ref (d 1), .ref (d 2), .ref (d 3), .int (nI (S.2.1)), .int (nI (k)), .ref (d 4), .ref (d 5), .ref (d 6), .ref (d 7), .ref (d 8), .int (nI (S.2.2.2.length))])), (d 1, .inl (cI, (804, .inl K))), (d 2, .inl (cI, (804, .inl V))), (d 3, .inl (cI, (4, .inl sz))), (d 4, .inl (cI, (3, .inl cb))), (d 5, .inl (cI, (3, .inl ck))), (d 6, .inl (cI, (3, .inl ca))), (d 7, .inl (cZ, (3, .inl it))), (d 8, .inl (cI, (6000, .inl ou)))] := hD
  refine lv_iconst (v := nI 0) hx hb dX5_denies_5 (by decide) ?_
  exact w_z (PB := fun H => MdAt D cI cZ d S (nI k) H) rfl ⟨K, V, sz, cb, ck, ca, it, ou, hP, hMB, hMC, hMO⟩ hS hx hb hr hlocks dX5_denies_6
set_option maxHeartbeats 4000000 in
set_option maxRecDepth 100000 in
theorem c5_place (l : Launch) (D : va_G) (cI cZ : ClassId) (d : Nat → Nat) (S : St) (th : Int32) (b : Nat) (key : Int32) (hb4 : b < 4) : Met l yX5_place (ws_ yX5_place cX5_place 4 (some .int)) (rmN 0) (va_Pc [.ref (d 0), .int (nI (b)), .int (key)] (pz D [(cI, .int), (cZ, .boolean)] (fun H => MdAt D cI cZ d S th H))) (Pq (some (.int (oI (fx (S.1 b) key))))) 0 0 (fun _ => False) := by
  refine m_start (by decide) (Nat.le_of_ble_eq_true rfl) ?_
  intro p e s m below meth c hx hb hr hG hown hlocks hml hB ls hl
  have hl : lv_has ls 4 [(0, .ref (d 0)), (1, .int (nI (b))), (2, .int (key))] := hl
  obtain ⟨hB0, hK⟩ := hB
  obtain ⟨K, V, sz, cb, ck, ca, it, ou, hP, hMB, hMC, hMO⟩ := id hB0
  have hlen := hMB.at hb4
  refine lv_iconst (v := nI 0) hx hb dX5_place_0 (by decide) ?_
  refine lv_istore_n (lv' := [(3, .int (nI (0))), (0, .ref (d 0)), (1, .int (nI (b))), (2, .int (key))]) hx hb dX5_place_1 rfl hl (by decide) rfl (fun ls hl => ?_)
  suffices KK : ∀ (n i : Nat), (S.1 b).length < i + n → i ≤ (S.1 b).length → (∀ j, j < i → kf (S.1 b) j ≠ key) → ∀ ls : Array Slot, lv_has ls 4 [(3, .int (nI (i))), (0, .ref (d 0)), (1, .int (nI (b))), (2, .int (key))] → W p l e (rmN 0) s m [.ref (d 0), .int (nI (b)), .int (key)].toArray below meth c s.heap [] 0 0 (MQ below (Pq (some (.int (oI (fx (S.1 b) key))))) [.ref (d 0), .int (nI (b)), .int (key)].toArray s 0 0 (fun _ => False)) (F0 m 2 ls []) from KK ((S.1 b).length + 1) 0 (by omega) (by omega) (fun j h => by omega) ls hl
  clear hl
  intro n
  induction n with
  | zero => intro i h1 h2; omega
  | succ n ih =>
    intro i h1 h2 hno ls hl
    refine lv_iload_n hx hb dX5_place_2 rfl (lv_at hl 0 rfl) ?_
    refine lv_aload_n hx hb dX5_place_3 rfl (lv_at hl 1 rfl) ?_
    refine gf_X5_16 hx hb hG hown hK hP 0 rfl rfl dX5_place_4 ?_
    refine lv_iload_n hx hb dX5_place_7 rfl (lv_at hl 2 rfl) ?_
    refine x_iald hx hb hK hP 3 0 rfl rfl (by omega) (by decide) dX5_place_8 ?_
    rw [(hMB (b) (by omega)).1]
    refine x_cmp_ge (tgt := 36) hx hb dX5_place_9 (by decide) (by omega) (by omega) (fun c1 => ?_) (fun c1 => ?_)
    · refine lv_iconst (v := (-1)) hx hb dX5_place_36 (by decide) ?_
      exact e_i (by rw [fx_no (fun j hj => hno j (by omega))]; rfl) hx hb hr hlocks dX5_place_37
    · refine lv_aload_n hx hb dX5_place_12 rfl (lv_at hl 1 rfl) ?_
      refine gf_X5_7 hx hb hG hown hK hP 0 rfl rfl dX5_place_13 ?_
      refine lv_sipush (v := nI 201) hx hb dX5_place_16 (by decide) ?_
      refine lv_iload_n hx hb dX5_place_19 rfl (lv_at hl 2 rfl) ?_
      refine x_imul (v := nI (201 * b)) hx hb dX5_place_20 (pk_mul _ _) ?_
      refine lv_iload_n hx hb dX5_place_21 rfl (lv_at hl 0 rfl) ?_
      refine x_iadd (v := nI ((201 * b) + i)) hx hb dX5_place_22 (nI_add _ _) ?_
      refine x_iald hx hb hK hP 1 0 rfl rfl (by omega) (by decide) dX5_place_23 ?_
      rw [show K ((201 * b) + i) = kf (S.1 b) i from ((hMB b (by omega)).2.2 i (by omega)).1]
      refine lv_iload_n hx hb dX5_place_24 rfl (lv_at hl 3 rfl) ?_
      refine lv_icmp_ne (tgt := 30) hx hb dX5_place_25 (by decide) (fun c2 => ?_) (fun c2 => ?_)
      · refine x_iinc (k := 0) (lv' := [(3, .int (nI (i + 1))), (0, .ref (d 0)), (1, .int (nI (b))), (2, .int (key))]) hx hb dX5_place_30 hl rfl (by decide) rfl (fun ls hl => ?_)
        refine lv_goto (tgt := 2) hx hb dX5_place_33 (by decide) ?_
        exact ih (i + 1) (by omega) (by omega) (fun j hj => by rcases Nat.lt_or_ge j i with q | q; exact hno j q; rw [show j = i by omega]; exact c2) ls (lv_sub hl [0, 1, 2, 3] rfl)
      · refine lv_iload_n hx hb dX5_place_28 rfl (lv_at hl 0 rfl) ?_
        exact e_i (by rw [fx_is (i := i) (by omega) (by first | exact c2 | exact Decidable.of_not_not c2) hno]; rfl) hx hb hr hlocks dX5_place_29
set_option maxHeartbeats 4000000 in
set_option maxRecDepth 100000 in
theorem c5_isFull (l : Launch) (D : va_G) (cI cZ : ClassId) (d : Nat → Nat) (S : St) (th : Int32) (b : Nat) (key : Int32) (hb4 : b < 4) : Met l yX5_isFull (ws_ yX5_isFull cX5_isFull 3 (some .boolean)) (rmN 1) (va_Pc [.ref (d 0), .int (nI (b)), .int (key)] (pz D [(cI, .int), (cZ, .boolean)] (fun H => MdAt D cI cZ d S th H))) (Pq (some (.int (bI (full S b key))))) 0 0 (fun _ => False) := by
  refine m_start (by decide) (Nat.le_of_ble_eq_true rfl) ?_
  intro p e s m below meth c hx hb hr hG hown hlocks hml hB ls hl
  have hl : lv_has ls 3 [(0, .ref (d 0)), (1, .int (nI (b))), (2, .int (key))] := hl
  obtain ⟨hB0, hK⟩ := hB
  obtain ⟨K, V, sz, cb, ck, ca, it, ou, hP, hMB, hMC, hMO⟩ := id hB0
  have hlen := hMB.at hb4
  refine lv_iload_n hx hb dX5_isFull_0 rfl (lv_at hl 1 rfl) ?_
  refine lv_iconst (v := nI 2) hx hb dX5_isFull_1 (by decide) ?_
  refine x_cmp_eq (tgt := 31) hx hb dX5_isFull_2 (by decide) (by omega) (by omega) (fun c1 => ?_) (fun c1 => ?_)
  · refine lv_iconst (v := nI 0) hx hb dX5_isFull_31 (by decide) ?_
    exact e_z (by unfold full; rw [decide_eq_false (fun z => z c1)]; rfl) hx hb hr hlocks dX5_isFull_32
  · refine lv_aload_n hx hb dX5_isFull_5 rfl (lv_at hl 0 rfl) ?_
    refine gf_X5_16 hx hb hG hown hK hP 0 rfl rfl dX5_isFull_6 ?_
    refine lv_iload_n hx hb dX5_isFull_9 rfl (lv_at hl 1 rfl) ?_
    refine x_iald hx hb hK hP 3 0 rfl rfl (by omega) (by decide) dX5_isFull_10 ?_
    rw [(hMB (b) (by omega)).1]
    refine lv_sipush (v := nI 200) hx hb dX5_isFull_11 (by decide) ?_
    refine x_cmp_ne (tgt := 31) hx hb dX5_isFull_14 (by decide) (by omega) (by omega) (fun c2 => ?_) (fun c2 => ?_)
    · refine lv_iconst (v := nI 0) hx hb dX5_isFull_31 (by decide) ?_
      exact e_z (by unfold full; rw [decide_eq_false c2, Bool.and_false]; rfl) hx hb hr hlocks dX5_isFull_32
    · cases hf : fx (S.1 b) key with
      | none =>
        refine lv_aload_n hx hb dX5_isFull_17 rfl (lv_at hl 0 rfl) ?_
        refine lv_iload_n hx hb dX5_isFull_18 rfl (lv_at hl 1 rfl) ?_
        refine lv_iload_n hx hb dX5_isFull_19 rfl (lv_at hl 2 rfl) ?_
        refine k1_V hx hb hml hown hG cs_X5_50 (by have h := c5_place l D cI cZ d S th b (key) (by omega); rw [hf] at h; exact h) (by decide) (pzV hK rfl hB0.rc hB0) rfl hl.1 rfl (Nat.le_of_ble_eq_true rfl) dX5_isFull_20 ⟨Nat.zero_le _, Nat.zero_le _⟩ rfl ?_
        refine lv_iconst (v := (-1)) hx hb dX5_isFull_23 (by decide) ?_
        refine lv_icmp_ne (tgt := 31) hx hb dX5_isFull_24 (by decide) (fun zc1 => False.elim (by first | exact absurd zc1 (by decide) | omega | (simp_all; done))) (fun zc1 => ?_)
        refine lv_iconst (v := nI 1) hx hb dX5_isFull_27 (by decide) ?_
        refine lv_goto (tgt := 32) hx hb dX5_isFull_28 (by decide) ?_
        exact e_z (by unfold full; rw [decide_eq_true c1, decide_eq_true c2, hf]; rfl) hx hb hr hlocks dX5_isFull_32
      | some i =>
        have hi := (fx_some hf).1
        refine lv_aload_n hx hb dX5_isFull_17 rfl (lv_at hl 0 rfl) ?_
        refine lv_iload_n hx hb dX5_isFull_18 rfl (lv_at hl 1 rfl) ?_
        refine lv_iload_n hx hb dX5_isFull_19 rfl (lv_at hl 2 rfl) ?_
        refine k1_V hx hb hml hown hG cs_X5_50 (by have h := c5_place l D cI cZ d S th b (key) (by omega); rw [hf] at h; exact h) (by decide) (pzV hK rfl hB0.rc hB0) rfl hl.1 rfl (Nat.le_of_ble_eq_true rfl) dX5_isFull_20 ⟨Nat.zero_le _, Nat.zero_le _⟩ rfl ?_
        refine lv_iconst (v := (-1)) hx hb dX5_isFull_23 (by decide) ?_
        refine lv_icmp_ne (tgt := 31) hx hb dX5_isFull_24 (by decide) (fun zc2 => ?_) (fun zc2 => False.elim (by first | omega | contradiction | exact absurd zc2 (m1_ne _ (by omega)) | exact absurd zc2 (by decide) | exact absurd (Eq.symm zc2) (m1_ne _ (by omega)) | (simp_all; done)))
        refine lv_iconst (v := nI 0) hx hb dX5_isFull_31 (by decide) ?_
        exact e_z (by unfold full; rw [hf, Option.isNone_some, Bool.and_false]; rfl) hx hb hr hlocks dX5_isFull_32
set_option maxHeartbeats 4000000 in
set_option maxRecDepth 100000 in
theorem c5_lacks_no (l : Launch) (D : va_G) (cI cZ : ClassId) (d : Nat → Nat) (S : St) (th : Int32) (x key : Int32) (hno : rch 4 x = false) : Met l yX5_lacks (ws_ yX5_lacks cX5_lacks 3 (some .int)) (rmN 2) (va_Pc [.ref (d 0), .int (x), .int (key)] (pz D [(cI, .int), (cZ, .boolean)] (fun H => MdAt D cI cZ d S th H))) (Pq (some (.int (nI 1)))) 0 0 (fun _ => False) := by
  refine m_start (by decide) (Nat.le_of_ble_eq_true rfl) ?_
  intro p e s m below meth c hx hb hr hG hown hlocks hml hB ls hl
  have hl : lv_has ls 3 [(0, .ref (d 0)), (1, .int (x)), (2, .int (key))] := hl
  obtain ⟨hB0, hK⟩ := hB
  refine lv_iload_n hx hb dX5_lacks_0 rfl (lv_at hl 1 rfl) ?_
  refine k1_S hx hb hml hown hG cs_X5_68 (by have h := c5_isBook l D (x); rw [hno] at h; exact h) (by decide) (pzS (hK.sub (tys' := []) [] rfl) trivial) rfl hl.1 rfl (Nat.le_of_ble_eq_true rfl) dX5_lacks_1 ⟨Nat.zero_le _, Nat.zero_le _⟩ rfl ?_
  refine x_ifb_ne (tgt := 11) hx hb dX5_lacks_4 (by decide) (fun zc1 => False.elim (by first | exact absurd zc1 (by decide) | omega | (simp_all; done))) (fun zc1 => ?_)
  refine lv_iconst (v := nI 1) hx hb dX5_lacks_7 (by decide) ?_
  refine lv_goto (tgt := 36) hx hb dX5_lacks_8 (by decide) ?_
  exact e_i rfl hx hb hr hlocks dX5_lacks_36
set_option maxHeartbeats 4000000 in
set_option maxRecDepth 100000 in
theorem c5_lacks_np (l : Launch) (D : va_G) (cI cZ : ClassId) (d : Nat → Nat) (S : St) (th : Int32) (x key : Int32) (b : Nat) (hx0 : x = nI b) (hb4 : b < 4) (hb2 : 2 ≤ b) : Met l yX5_lacks (ws_ yX5_lacks cX5_lacks 3 (some .int)) (rmN 2) (va_Pc [.ref (d 0), .int (x), .int (key)] (pz D [(cI, .int), (cZ, .boolean)] (fun H => MdAt D cI cZ d S th H))) (Pq (some (.int (nI 2)))) 0 0 (fun _ => False) := by
  refine m_start (by decide) (Nat.le_of_ble_eq_true rfl) ?_
  intro p e s m below meth c hx hb hr hG hown hlocks hml hB ls hl
  have hl : lv_has ls 3 [(0, .ref (d 0)), (1, .int (x)), (2, .int (key))] := hl
  obtain ⟨hB0, hK⟩ := hB
  subst hx0
  refine lv_iload_n hx hb dX5_lacks_0 rfl (lv_at hl 1 rfl) ?_
  refine k1_S hx hb hml hown hG cs_X5_68 (by have h := c5_isBook l D (nI (b)); rw [rch_in (by omega) (by decide)] at h; exact h) (by decide) (pzS (hK.sub (tys' := []) [] rfl) trivial) rfl hl.1 rfl (Nat.le_of_ble_eq_true rfl) dX5_lacks_1 ⟨Nat.zero_le _, Nat.zero_le _⟩ rfl ?_
  refine x_ifb_ne (tgt := 11) hx hb dX5_lacks_4 (by decide) (fun zc1 => ?_) (fun zc1 => False.elim (by first | exact absurd zc1 (by decide) | omega | (simp_all; done)))
  refine lv_iload_n hx hb dX5_lacks_11 rfl (lv_at hl 1 rfl) ?_
  refine k1_S hx hb hml hown hG cs_X5_86 (by have h := c5_isPlain l D (nI (b)); rw [show rch 2 (nI b) = false from rch_hi (nI_le (by omega) (by omega))] at h; exact h) (by decide) (pzS (hK.sub (tys' := []) [] rfl) trivial) rfl hl.1 rfl (Nat.le_of_ble_eq_true rfl) dX5_lacks_12 ⟨Nat.zero_le _, Nat.zero_le _⟩ rfl ?_
  refine x_ifb_ne (tgt := 22) hx hb dX5_lacks_15 (by decide) (fun zc2 => False.elim (by first | exact absurd zc2 (by decide) | omega | (simp_all; done))) (fun zc2 => ?_)
  refine lv_iconst (v := nI 2) hx hb dX5_lacks_18 (by decide) ?_
  refine lv_goto (tgt := 36) hx hb dX5_lacks_19 (by decide) ?_
  exact e_i rfl hx hb hr hlocks dX5_lacks_36
set_option maxHeartbeats 4000000 in
set_option maxRecDepth 100000 in
theorem c5_lacks_fu (l : Launch) (D : va_G) (cI cZ : ClassId) (d : Nat → Nat) (S : St) (th : Int32) (x key : Int32) (b : Nat) (hx0 : x = nI b) (hb4 : b < 2) (hf : full S b key = true) : Met l yX5_lacks (ws_ yX5_lacks cX5_lacks 3 (some .int)) (rmN 2) (va_Pc [.ref (d 0), .int (x), .int (key)] (pz D [(cI, .int), (cZ, .boolean)] (fun H => MdAt D cI cZ d S th H))) (Pq (some (.int (nI 3)))) 0 0 (fun _ => False) := by
  refine m_start (by decide) (Nat.le_of_ble_eq_true rfl) ?_
  intro p e s m below meth c hx hb hr hG hown hlocks hml hB ls hl
  have hl : lv_has ls 3 [(0, .ref (d 0)), (1, .int (x)), (2, .int (key))] := hl
  obtain ⟨hB0, hK⟩ := hB
  subst hx0
  refine lv_iload_n hx hb dX5_lacks_0 rfl (lv_at hl 1 rfl) ?_
  refine k1_S hx hb hml hown hG cs_X5_68 (by have h := c5_isBook l D (nI (b)); rw [rch_in (by omega) (by decide)] at h; exact h) (by decide) (pzS (hK.sub (tys' := []) [] rfl) trivial) rfl hl.1 rfl (Nat.le_of_ble_eq_true rfl) dX5_lacks_1 ⟨Nat.zero_le _, Nat.zero_le _⟩ rfl ?_
  refine x_ifb_ne (tgt := 11) hx hb dX5_lacks_4 (by decide) (fun zc1 => ?_) (fun zc1 => False.elim (by first | exact absurd zc1 (by decide) | omega | (simp_all; done)))
  refine lv_iload_n hx hb dX5_lacks_11 rfl (lv_at hl 1 rfl) ?_
  refine k1_S hx hb hml hown hG cs_X5_86 (by have h := c5_isPlain l D (nI (b)); rw [rch_in (by omega) (by decide)] at h; exact h) (by decide) (pzS (hK.sub (tys' := []) [] rfl) trivial) rfl hl.1 rfl (Nat.le_of_ble_eq_true rfl) dX5_lacks_12 ⟨Nat.zero_le _, Nat.zero_le _⟩ rfl ?_
  refine x_ifb_ne (tgt := 22) hx hb dX5_lacks_15 (by decide) (fun zc2 => ?_) (fun zc2 => False.elim (by first | exact absurd zc2 (by decide) | omega | (simp_all; done)))
  refine lv_aload_n hx hb dX5_lacks_22 rfl (lv_at hl 0 rfl) ?_
  refine lv_iload_n hx hb dX5_lacks_23 rfl (lv_at hl 1 rfl) ?_
  refine lv_iload_n hx hb dX5_lacks_24 rfl (lv_at hl 2 rfl) ?_
  refine k1_V hx hb hml hown hG cs_X5_75 (by have h := c5_isFull l D cI cZ d S th b key (by omega); rw [hf] at h; exact h) (by decide) (pzV hK rfl hB0.rc hB0) rfl hl.1 rfl (Nat.le_of_ble_eq_true rfl) dX5_lacks_25 ⟨Nat.zero_le _, Nat.zero_le _⟩ rfl ?_
  refine x_ifb_eq (tgt := 35) hx hb dX5_lacks_28 (by decide) (fun zc3 => False.elim (by first | exact absurd zc3 (by decide) | omega | (simp_all; done))) (fun zc3 => ?_)
  refine lv_iconst (v := nI 3) hx hb dX5_lacks_31 (by decide) ?_
  refine lv_goto (tgt := 36) hx hb dX5_lacks_32 (by decide) ?_
  exact e_i rfl hx hb hr hlocks dX5_lacks_36
set_option maxHeartbeats 4000000 in
set_option maxRecDepth 100000 in
theorem c5_lacks_ok (l : Launch) (D : va_G) (cI cZ : ClassId) (d : Nat → Nat) (S : St) (th : Int32) (x key : Int32) (b : Nat) (hx0 : x = nI b) (hb4 : b < 2) (hf : full S b key = false) : Met l yX5_lacks (ws_ yX5_lacks cX5_lacks 3 (some .int)) (rmN 2) (va_Pc [.ref (d 0), .int (x), .int (key)] (pz D [(cI, .int), (cZ, .boolean)] (fun H => MdAt D cI cZ d S th H))) (Pq (some (.int (nI 0)))) 0 0 (fun _ => False) := by
  refine m_start (by decide) (Nat.le_of_ble_eq_true rfl) ?_
  intro p e s m below meth c hx hb hr hG hown hlocks hml hB ls hl
  have hl : lv_has ls 3 [(0, .ref (d 0)), (1, .int (x)), (2, .int (key))] := hl
  obtain ⟨hB0, hK⟩ := hB
  subst hx0
  refine lv_iload_n hx hb dX5_lacks_0 rfl (lv_at hl 1 rfl) ?_
  refine k1_S hx hb hml hown hG cs_X5_68 (by have h := c5_isBook l D (nI (b)); rw [rch_in (by omega) (by decide)] at h; exact h) (by decide) (pzS (hK.sub (tys' := []) [] rfl) trivial) rfl hl.1 rfl (Nat.le_of_ble_eq_true rfl) dX5_lacks_1 ⟨Nat.zero_le _, Nat.zero_le _⟩ rfl ?_
  refine x_ifb_ne (tgt := 11) hx hb dX5_lacks_4 (by decide) (fun zc1 => ?_) (fun zc1 => False.elim (by first | exact absurd zc1 (by decide) | omega | (simp_all; done)))
  refine lv_iload_n hx hb dX5_lacks_11 rfl (lv_at hl 1 rfl) ?_
  refine k1_S hx hb hml hown hG cs_X5_86 (by have h := c5_isPlain l D (nI (b)); rw [rch_in (by omega) (by decide)] at h; exact h) (by decide) (pzS (hK.sub (tys' := []) [] rfl) trivial) rfl hl.1 rfl (Nat.le_of_ble_eq_true rfl) dX5_lacks_12 ⟨Nat.zero_le _, Nat.zero_le _⟩ rfl ?_
  refine x_ifb_ne (tgt := 22) hx hb dX5_lacks_15 (by decide) (fun zc2 => ?_) (fun zc2 => False.elim (by first | exact absurd zc2 (by decide) | omega | (simp_all; done)))
  refine lv_aload_n hx hb dX5_lacks_22 rfl (lv_at hl 0 rfl) ?_
  refine lv_iload_n hx hb dX5_lacks_23 rfl (lv_at hl 1 rfl) ?_
  refine lv_iload_n hx hb dX5_lacks_24 rfl (lv_at hl 2 rfl) ?_
  refine k1_V hx hb hml hown hG cs_X5_75 (by have h := c5_isFull l D cI cZ d S th b key (by omega); rw [hf] at h; exact h) (by decide) (pzV hK rfl hB0.rc hB0) rfl hl.1 rfl (Nat.le_of_ble_eq_true rfl) dX5_lacks_25 ⟨Nat.zero_le _, Nat.zero_le _⟩ rfl ?_
  refine x_ifb_eq (tgt := 35) hx hb dX5_lacks_28 (by decide) (fun zc3 => ?_) (fun zc3 => False.elim (by first | exact absurd zc3 (by decide) | omega | (simp_all; done)))
  refine lv_iconst (v := nI 0) hx hb dX5_lacks_35 (by decide) ?_
  exact e_i rfl hx hb hr hlocks dX5_lacks_36
theorem clo_cases (C : Nat → Cu) (b : Nat) (but : Int32) (c : Nat) : clo C b but c = (match C c with | none => none | some x => if x.1 = b ∧ nI c ≠ but then none else some x) := rfl
theorem MdQ_none {x : Cu} {w k n t : Int32} (h : MdQ x w k n t) (hw : w = -1) (hb : ∀ y, x = some y → y.1 < 4) : x = none := by
  match x, h with
  | none, _ => rfl
  | some (b, k', n', t'), ⟨h1, _⟩ =>
    have hb2 : b < 4 := hb _ rfl
    exact absurd (h1.symm.trans hw) (m1_ne b (by omega))
/-- the rows of the cursors when those below i have been looked at -/
def cbI (cb : Nat → Int32) (b : Nat) (but : Int32) (i : Nat) : Nat → Int32 := fun c => if c < i ∧ cb c = nI b ∧ nI c ≠ but then -1 else cb c
theorem cbI_0 (cb : Nat → Int32) (b : Nat) (but : Int32) : cbI cb b but 0 = cb := by
  funext c
  unfold cbI
  rw [if_neg (by omega)]
theorem cbI_set {cb : Nat → Int32} {b : Nat} {but : Int32} {i : Nat} (h : cb i = nI b) (h2 : nI i ≠ but) : upd (cbI cb b but i) i (-1) = cbI cb b but (i + 1) := by
  funext c
  rw [upd_at]
  unfold cbI
  by_cases e : c = i
  · subst e; rw [if_pos rfl, if_pos ⟨by omega, h, h2⟩]
  · rw [if_neg e]
    by_cases q : c < i ∧ cb c = nI b ∧ nI c ≠ but
    · rw [if_pos q, if_pos ⟨by omega, q.2⟩]
    · rw [if_neg q, if_neg (fun z => q ⟨by omega, z.2⟩)]
theorem cbI_keep {cb : Nat → Int32} {b : Nat} {but : Int32} {i : Nat} (h : ¬ (cb i = nI b ∧ nI i ≠ but)) : cbI cb b but i = cbI cb b but (i + 1) := by
  funext c
  unfold cbI
  by_cases e : c = i
  · subst e; rw [if_neg (fun z => by omega), if_neg (fun z => h z.2)]
  · by_cases q : c < i ∧ cb c = nI b ∧ nI c ≠ but
    · rw [if_pos q, if_pos ⟨by omega, q.2⟩]
    · rw [if_neg q, if_neg (fun z => q ⟨by omega, z.2⟩)]
theorem cbI_at {cb : Nat → Int32} {b : Nat} {but : Int32} {i : Nat} : cbI cb b but i i = cb i := by
  unfold cbI
  rw [if_neg (by omega)]
theorem MdC.clo {C : Nat → Cu} {cb ck ca it : Nat → Int32} (h : MdC C cb ck ca it) {b : Nat} (hb : b < 4) (but : Int32) (hC : ∀ c, c < 3 → ∀ y, C c = some y → y.1 < 4) : MdC (clo C b but) (cbI cb b but 3) ck ca it := fun c hc => by
  have hq := h c hc
  rw [clo_cases]
  unfold cbI
  cases hx : C c with
  | none =>
    rw [hx] at hq
    have hq : cb c = -1 := hq
    show (if _ then _ else _) = _
    split
    · rfl
    · exact hq
  | some y =>
    obtain ⟨b', k', n', t'⟩ := y
    rw [hx] at hq
    obtain ⟨q1, q2⟩ := hq
    have hb' : b' < 4 := hC c hc _ hx
    show MdQ (if b' = b ∧ nI c ≠ but then none else some (b', k', n', t')) _ _ _ _
    by_cases e : b' = b ∧ nI c ≠ but
    · rw [if_pos e, if_pos ⟨hc, by rw [q1, e.1], e.2⟩]
      exact rfl
    · rw [if_neg e, if_neg (fun z => e ⟨(nI_eq (by omega) (by omega)).mp (q1.symm.trans z.2.1), z.2.2⟩)]
      exact ⟨q1, q2⟩
set_option maxHeartbeats 4000000 in
set_option maxRecDepth 100000 in
theorem c5_closes (l : Launch) (D : va_G) (cI cZ : ClassId) (d : Nat → Nat) (S : St) (th : Int32) (b : Nat) (but : Int32) (hb4 : b < 4) (hC : ∀ c, c < 3 → ∀ y, S.2.2.1 c = some y → y.1 < 4) (hap : Ap d 9) : Met l yX5_closes (ws_ yX5_closes cX5_closes 4 none) (rmN 0) (va_Pc [.ref (d 0), .int (nI (b)), .int (but)] (pz D [(cI, .int), (cZ, .boolean)] (fun H => MdAt D cI cZ d S th H))) (Wq none (fun H => MdAt D cI cZ d (clB S b but) th H) (Ao d 9)) 0 0 (Ao d 9) := by
  refine m_start (by decide) (Nat.le_of_ble_eq_true rfl) ?_
  intro p e s m below meth c hx hb hr hG hown hlocks hml hB ls hl
  have hl : lv_has ls 4 [(0, .ref (d 0)), (1, .int (nI (b))), (2, .int (but))] := hl
  obtain ⟨hB0, hK⟩ := hB
  obtain ⟨K, V, sz, cb, ck, ca, it, ou, hP, hMB, hMC, hMO⟩ := id hB0
  have hD : va_D (Ao d 9) [(d 0, .inr (5, [.ref (d 1), .ref (d 2), .ref (d 3), .int (nI (S.2.1)), .int (th), .ref (d 4), .ref (d 5), .ref (d 6), .ref (d 7), .ref (d 8), .int (nI (S.2.2.2.length))])), (d 1, .inl (cI, (804, .inl K))), (d 2, .inl (cI, (804, .inl V))), (d 3, .inl (cI, (4, .inl sz))), (d 4, .inl (cI, (3, .inl cb))), (d 5, .inl (cI, (3, .inl ck))), (d 6, .inl (cI, (3, .inl ca))), (d 7, .inl (cZ, (3, .inl it))), (d 8, .inl (cI, (6000, .inl ou)))] := hap.D9
  have hS : va_S (Ao d 9) s.heap s.heap [] := va_S.rf
  refine lv_iconst (v := nI 0) hx hb dX5_closes_0 (by decide) ?_
  refine lv_istore_n (lv' := [(3, .int (nI (0))), (0, .ref (d 0)), (1, .int (nI (b))), (2, .int (but))]) hx hb dX5_closes_1 rfl hl (by decide) rfl (fun ls hl => ?_)
  rw [← cbI_0 cb b but] at hP
  suffices KK : ∀ (n i : Nat), 3 < i + n → i ≤ 3 → ∀ (H : Heap) (locs : List Loc), va_P D vwCl [(d 0, .inr (5, [.ref (d 1), .ref (d 2), .ref (d 3), .int (nI (S.2.1)), .int (th), .ref (d 4), .ref (d 5), .ref (d 6), .ref (d 7), .ref (d 8), .int (nI (S.2.2.2.length))])), (d 1, .inl (cI, (804, .inl K))), (d 2, .inl (cI, (804, .inl V))), (d 3, .inl (cI, (4, .inl sz))), (d 4, .inl (cI, (3, .inl (cbI cb b but i)))), (d 5, .inl (cI, (3, .inl ck))), (d 6, .inl (cI, (3, .inl ca))), (d 7, .inl (cZ, (3, .inl it))), (d 8, .inl (cI, (6000, .inl ou)))] H → va_D (Ao d 9) [(d 0, .inr (5, [.ref (d 1), .ref (d 2), .ref (d 3), .int (nI (S.2.1)), .int (th), .ref (d 4), .ref (d 5), .ref (d 6), .ref (d 7), .ref (d 8), .int (nI (S.2.2.2.length))])), (d 1, .inl (cI, (804, .inl K))), (d 2, .inl (cI, (804, .inl V))), (d 3, .inl (cI, (4, .inl sz))), (d 4, .inl (cI, (3, .inl (cbI cb b but i)))), (d 5, .inl (cI, (3, .inl ck))), (d 6, .inl (cI, (3, .inl ca))), (d 7, .inl (cZ, (3, .inl it))), (d 8, .inl (cI, (6000, .inl ou)))] → va_S (Ao d 9) s.heap H locs → ∀ ls : Array Slot, lv_has ls 4 [(3, .int (nI (i))), (0, .ref (d 0)), (1, .int (nI (b))), (2, .int (but))] → W p l e (rmN 0) s m [.ref (d 0), .int (nI (b)), .int (but)].toArray below meth c H locs 0 0 (MQ below (Wq none (fun H => MdAt D cI cZ d (clB S b but) th H) (Ao d 9)) [.ref (d 0), .int (nI (b)), .int (but)].toArray s 0 0 (Ao d 9)) (F0 m 2 ls []) from KK 4 0 (by omega) (by omega) s.heap [] hP hap.D9 hS ls hl
  clear hP hD hS hl
  intro n
  induction n with
  | zero => intro i h1 h2; omega
  | succ n ih =>
    intro i h1 h2 H locs hP hD hS ls hl
    refine lv_iload_n hx hb dX5_closes_2 rfl (lv_at hl 0 rfl) ?_
    refine lv_iconst (v := nI 3) hx hb dX5_closes_3 (by decide) ?_
    refine x_cmp_ge (tgt := 35) hx hb dX5_closes_4 (by decide) (by omega) (by omega) (fun c1 => ?_) (fun c1 => ?_)
    · have ei : i = 3 := by omega
      subst ei
      exact w_v (PB := fun H => MdAt D cI cZ d (clB S b but) th H) ⟨K, V, sz, cbI cb b but 3, ck, ca, it, ou, hP, hMB, hMC.clo hb4 but hC, hMO⟩ hS hx hb hr hlocks dX5_closes_35
    · refine lv_aload_n hx hb dX5_closes_7 rfl (lv_at hl 1 rfl) ?_
      refine gf_X5_23 hx hb hG hown hK hP 0 rfl rfl dX5_closes_8 ?_
      refine lv_iload_n hx hb dX5_closes_11 rfl (lv_at hl 0 rfl) ?_
      refine x_iald hx hb hK hP 4 0 rfl rfl (by omega) (by decide) dX5_closes_12 ?_
      rw [cbI_at]
      refine lv_iload_n hx hb dX5_closes_13 rfl (lv_at hl 2 rfl) ?_
      refine lv_icmp_ne (tgt := 29) hx hb dX5_closes_14 (by decide) (fun c2 => ?_) (fun c2 => ?_)
      · rw [cbI_keep (fun z => c2 z.1)] at hP hD
        refine x_iinc (k := 0) (lv' := [(3, .int (nI (i + 1))), (0, .ref (d 0)), (1, .int (nI (b))), (2, .int (but))]) hx hb dX5_closes_29 hl rfl (by decide) rfl (fun ls hl => ?_)
        refine lv_goto (tgt := 2) hx hb dX5_closes_32 (by decide) ?_
        exact ih (i + 1) (by omega) (by omega) H locs hP hD hS ls (lv_sub hl [0, 1, 2, 3] rfl)
      · refine lv_iload_n hx hb dX5_closes_17 rfl (lv_at hl 0 rfl) ?_
        refine lv_iload_n hx hb dX5_closes_18 rfl (lv_at hl 3 rfl) ?_
        refine lv_icmp_eq (tgt := 29) hx hb dX5_closes_19 (by decide) (fun c3 => ?_) (fun c3 => ?_)
        · rw [cbI_keep (fun z => z.2 c3)] at hP hD
          refine x_iinc (k := 0) (lv' := [(3, .int (nI (i + 1))), (0, .ref (d 0)), (1, .int (nI (b))), (2, .int (but))]) hx hb dX5_closes_29 hl rfl (by decide) rfl (fun ls hl => ?_)
          refine lv_goto (tgt := 2) hx hb dX5_closes_32 (by decide) ?_
          exact ih (i + 1) (by omega) (by omega) H locs hP hD hS ls (lv_sub hl [0, 1, 2, 3] rfl)
        · refine lv_aload_n hx hb dX5_closes_22 rfl (lv_at hl 1 rfl) ?_
          refine gf_X5_23 hx hb hG hown hK hP 0 rfl rfl dX5_closes_23 ?_
          refine lv_iload_n hx hb dX5_closes_26 rfl (lv_at hl 0 rfl) ?_
          refine lv_iconst (v := (-1)) hx hb dX5_closes_27 (by decide) ?_
          refine x_iast hx hb hK hP hD hS 4 0 rfl rfl (by omega) (by decide) dX5_closes_28 (fun H locs hP hD hS => ?_)
          have hP : va_P D vwCl [(d 0, .inr (5, [.ref (d 1), .ref (d 2), .ref (d 3), .int (nI (S.2.1)), .int (th), .ref (d 4), .ref (d 5), .ref (d 6), .ref (d 7), .ref (d 8), .int (nI (S.2.2.2.length))])), (d 1, .inl (cI, (804, .inl K))), (d 2, .inl (cI, (804, .inl V))), (d 3, .inl (cI, (4, .inl sz))), (d 4, .inl (cI, (3, .inl (upd (cbI cb b but i) (i) ((-1)))))), (d 5, .inl (cI, (3, .inl ck))), (d 6, .inl (cI, (3, .inl ca))), (d 7, .inl (cZ, (3, .inl it))), (d 8, .inl (cI, (6000, .inl ou)))] H := hP
          have hD : va_D (Ao d 9) [(d 0, .inr (5, [.ref (d 1), .ref (d 2), .ref (d 3), .int (nI (S.2.1)), .int (th), .ref (d 4), .ref (d 5), .ref (d 6), .ref (d 7), .ref (d 8), .int (nI (S.2.2.2.length))])), (d 1, .inl (cI, (804, .inl K))), (d 2, .inl (cI, (804, .inl V))), (d 3, .inl (cI, (4, .inl sz))), (d 4, .inl (cI, (3, .inl (upd (cbI cb b but i) (i) ((-1)))))), (d 5, .inl (cI, (3, .inl ck))), (d 6, .inl (cI, (3, .inl ca))), (d 7, .inl (cZ, (3, .inl it))), (d 8, .inl (cI, (6000, .inl ou)))] := hD
          rw [cbI_set (by first | exact c2 | exact Decidable.of_not_not c2) c3] at hP hD
          refine x_iinc (k := 0) (lv' := [(3, .int (nI (i + 1))), (0, .ref (d 0)), (1, .int (nI (b))), (2, .int (but))]) hx hb dX5_closes_29 hl rfl (by decide) rfl (fun ls hl => ?_)
          refine lv_goto (tgt := 2) hx hb dX5_closes_32 (by decide) ?_
          exact ih (i + 1) (by omega) (by omega) H locs hP hD hS ls (lv_sub hl [0, 1, 2, 3] rfl)
theorem MdB.era {B : Nat → Bk} {K V sz K' V' sz' : Nat → Int32} (h : MdB B K V sz) {b j : Nat} (hb : b < 4) (hj : j < (B b).length) (hs : sz' b = nI ((B b).length - 1)) (hso : ∀ o, o ≠ b → sz' o = sz o) (h1 : Sh (fun q => K (201 * b + q)) (fun q => K' (201 * b + q)) j (B b).length) (h2 : Sh (fun q => V (201 * b + q)) (fun q => V' (201 * b + q)) j (B b).length) (ho : ∀ q, (q < 201 * b ∨ 201 * b + 201 ≤ q) → K' q = K q ∧ V' q = V q) : MdB (va_up B b ((B b).eraseIdx j)) K' V' sz' := by
  obtain ⟨-, g2, g3⟩ := h b hb
  refine h.put ((B b).eraseIdx j) (by rw [era_len hj]; omega) (by rw [era_len hj]; exact hs) hso (fun q hq => ?_) ho
  rw [era_len hj] at hq
  rw [kf_era, vf_era]
  by_cases e : q < j
  · rw [if_pos e, if_pos e]
    have a1 : K' (201 * b + q) = K (201 * b + q) := h1.1 q e
    have a2 : V' (201 * b + q) = V (201 * b + q) := h2.1 q e
    rw [a1, a2]
    exact g3 q (by omega)
  · rw [if_neg e, if_neg e]
    have a1 : K' (201 * b + q) = K (201 * b + (q + 1)) := h1.2.1 q (by omega) (by omega)
    have a2 : V' (201 * b + q) = V (201 * b + (q + 1)) := h2.2.1 q (by omega) (by omega)
    rw [a1, a2]
    exact g3 (q + 1) (by omega)
theorem Sh.stepA {K K' : Nat → Int32} {b j i : Nat} (h : Sh (fun q => K (201 * b + q)) (fun q => K' (201 * b + q)) j (i + 1)) (hi : j ≤ i) : Sh (fun q => K (201 * b + q)) (fun q => (upd K' (201 * b + i) (K' (201 * b + i + 1))) (201 * b + q)) j (i + 2) := by
  rw [off_upd]
  have := h.step (by omega)
  exact this
theorem upd_out {K K' : Nat → Int32} {b i : Nat} {x : Int32} (hi : i < 201) (h : ∀ q, (q < 201 * b ∨ 201 * b + 201 ≤ q) → K' q = K q) : ∀ q, (q < 201 * b ∨ 201 * b + 201 ≤ q) → upd K' (201 * b + i) x q = K q := fun q hq => by
  rw [upd_at, if_neg (by omega)]
  exact h q hq
set_option maxHeartbeats 4000000 in
set_option maxRecDepth 100000 in
theorem c5_takes (l : Launch) (D : va_G) (cI cZ : ClassId) (d : Nat → Nat) (S : St) (th : Int32) (b j : Nat) (hb4 : b < 4) (hj : j < (S.1 b).length) (hap : Ap d 9) : Met l yX5_takes (ws_ yX5_takes cX5_takes 4 none) (rmN 0) (va_Pc [.ref (d 0), .int (nI (b)), .int (nI (j))] (pz D [(cI, .int), (cZ, .boolean)] (fun H => MdAt D cI cZ d S th H))) (Wq none (fun H => MdAt D cI cZ d (upB S b ((S.1 b).eraseIdx j)) th H) (Ao d 9)) 0 0 (Ao d 9) := by
  refine m_start (by decide) (Nat.le_of_ble_eq_true rfl) ?_
  intro p e s m below meth c hx hb hr hG hown hlocks hml hB ls hl
  have hl : lv_has ls 4 [(0, .ref (d 0)), (1, .int (nI (b))), (2, .int (nI (j)))] := hl
  obtain ⟨hB0, hK⟩ := hB
  obtain ⟨K, V, sz, cb, ck, ca, it, ou, hP, hMB, hMC, hMO⟩ := id hB0
  have hD : va_D (Ao d 9) [(d 0, .inr (5, [.ref (d 1), .ref (d 2), .ref (d 3), .int (nI (S.2.1)), .int (th), .ref (d 4), .ref (d 5), .ref (d 6), .ref (d 7), .ref (d 8), .int (nI (S.2.2.2.length))])), (d 1, .inl (cI, (804, .inl K))), (d 2, .inl (cI, (804, .inl V))), (d 3, .inl (cI, (4, .inl sz))), (d 4, .inl (cI, (3, .inl cb))), (d 5, .inl (cI, (3, .inl ck))), (d 6, .inl (cI, (3, .inl ca))), (d 7, .inl (cZ, (3, .inl it))), (d 8, .inl (cI, (6000, .inl ou)))] := hap.D9
  have hS : va_S (Ao d 9) s.heap s.heap [] := va_S.rf
  have hlen := hMB.at hb4
  refine lv_iload_n hx hb dX5_takes_0 rfl (lv_at hl 2 rfl) ?_
  refine lv_istore_n (lv' := [(3, .int (nI (j))), (0, .ref (d 0)), (1, .int (nI (b))), (2, .int (nI (j)))]) hx hb dX5_takes_1 rfl hl (by decide) rfl (fun ls hl => ?_)
  suffices KK : ∀ (n i : Nat) (K' V' : Nat → Int32), (S.1 b).length < i + 1 + n → j ≤ i → i + 1 ≤ (S.1 b).length → Sh (fun q => K (201 * b + q)) (fun q => K' (201 * b + q)) j (i + 1) → Sh (fun q => V (201 * b + q)) (fun q => V' (201 * b + q)) j (i + 1) → (∀ q, (q < 201 * b ∨ 201 * b + 201 ≤ q) → K' q = K q) → (∀ q, (q < 201 * b ∨ 201 * b + 201 ≤ q) → V' q = V q) → ∀ (H : Heap) (locs : List Loc), va_P D vwCl [(d 0, .inr (5, [.ref (d 1), .ref (d 2), .ref (d 3), .int (nI (S.2.1)), .int (th), .ref (d 4), .ref (d 5), .ref (d 6), .ref (d 7), .ref (d 8), .int (nI (S.2.2.2.length))])), (d 1, .inl (cI, (804, .inl K'))), (d 2, .inl (cI, (804, .inl V'))), (d 3, .inl (cI, (4, .inl sz))), (d 4, .inl (cI, (3, .inl cb))), (d 5, .inl (cI, (3, .inl ck))), (d 6, .inl (cI, (3, .inl ca))), (d 7, .inl (cZ, (3, .inl it))), (d 8, .inl (cI, (6000, .inl ou)))] H → va_D (Ao d 9) [(d 0, .inr (5, [.ref (d 1), .ref (d 2), .ref (d 3), .int (nI (S.2.1)), .int (th), .ref (d 4), .ref (d 5), .ref (d 6), .ref (d 7), .ref (d 8), .int (nI (S.2.2.2.length))])), (d 1, .inl (cI, (804, .inl K'))), (d 2, .inl (cI, (804, .inl V'))), (d 3, .inl (cI, (4, .inl sz))), (d 4, .inl (cI, (3, .inl cb))), (d 5, .inl (cI, (3, .inl ck))), (d 6, .inl (cI, (3, .inl ca))), (d 7, .inl (cZ, (3, .inl it))), (d 8, .inl (cI, (6000, .inl ou)))] → va_S (Ao d 9) s.heap H locs → ∀ ls : Array Slot, lv_has ls 4 [(3, .int (nI (i))), (0, .ref (d 0)), (1, .int (nI (b))), (2, .int (nI (j)))] → W p l e (rmN 0) s m [.ref (d 0), .int (nI (b)), .int (nI (j))].toArray below meth c H locs 0 0 (MQ below (Wq none (fun H => MdAt D cI cZ d (upB S b ((S.1 b).eraseIdx j)) th H) (Ao d 9)) [.ref (d 0), .int (nI (b)), .int (nI (j))].toArray s 0 0 (Ao d 9)) (F0 m 2 ls []) from KK ((S.1 b).length + 1) j K V (by omega) (by omega) (by omega) Sh.z Sh.z (fun _ _ => rfl) (fun _ _ => rfl) s.heap [] hP hD hS ls (lv_sub hl [0, 1, 2, 3] rfl)
  clear hP hD hS hl
  intro n
  induction n with
  | zero => intro i K' V' h1 h2 h3; omega
  | succ n ih =>
    intro i K' V' h1 h2 h3 hk1 hv1 hk2 hv2 H locs hP hD hS ls hl
    refine lv_iload_n hx hb dX5_takes_2 rfl (lv_at hl 0 rfl) ?_
    refine lv_iconst (v := nI 1) hx hb dX5_takes_3 (by decide) ?_
    refine x_iadd (v := nI (i + 1)) hx hb dX5_takes_4 (nI_add _ _) ?_
    refine lv_aload_n hx hb dX5_takes_5 rfl (lv_at hl 1 rfl) ?_
    refine gf_X5_16 hx hb hG hown hK hP 0 rfl rfl dX5_takes_6 ?_
    refine lv_iload_n hx hb dX5_takes_9 rfl (lv_at hl 2 rfl) ?_
    refine x_iald hx hb hK hP 3 0 rfl rfl (by omega) (by decide) dX5_takes_10 ?_
    rw [(hMB (b) (by omega)).1]
    refine x_cmp_ge (tgt := 72) hx hb dX5_takes_11 (by decide) (by omega) (by omega) (fun c1 => ?_) (fun c1 => ?_)
    · refine lv_aload_n hx hb dX5_takes_72 rfl (lv_at hl 1 rfl) ?_
      refine gf_X5_16 hx hb hG hown hK hP 0 rfl rfl dX5_takes_73 ?_
      refine lv_iload_n hx hb dX5_takes_76 rfl (lv_at hl 2 rfl) ?_
      refine lv_dup2_11 hx hb dX5_takes_77 rfl rfl ?_
      refine x_iald hx hb hK hP 3 0 rfl rfl (by omega) (by decide) dX5_takes_78 ?_
      rw [(hMB (b) (by omega)).1]
      refine lv_iconst (v := nI 1) hx hb dX5_takes_79 (by decide) ?_
      refine x_isub (v := nI (((S.1 b).length) - 1)) hx hb dX5_takes_80 (pk_sub (by omega)) ?_
      refine x_iast hx hb hK hP hD hS 3 0 rfl rfl (by omega) (by decide) dX5_takes_81 (fun H locs hP hD hS => ?_)
      have hP : va_P D vwCl [(d 0, .inr (5, [.ref (d 1), .ref (d 2), .ref (d 3), .int (nI (S.2.1)), .int (th), .ref (d 4), .ref (d 5), .ref (d 6), .ref (d 7), .ref (d 8), .int (nI (S.2.2.2.length))])), (d 1, .inl (cI, (804, .inl K'))), (d 2, .inl (cI, (804, .inl V'))), (d 3, .inl (cI, (4, .inl (upd sz (b) (nI (((S.1 b).length) - 1)))))), (d 4, .inl (cI, (3, .inl cb))), (d 5, .inl (cI, (3, .inl ck))), (d 6, .inl (cI, (3, .inl ca))), (d 7, .inl (cZ, (3, .inl it))), (d 8, .inl (cI, (6000, .inl ou)))] H := hP
      have hD : va_D (Ao d 9) [(d 0, .inr (5, [.ref (d 1), .ref (d 2), .ref (d 3), .int (nI (S.2.1)), .int (th), .ref (d 4), .ref (d 5), .ref (d 6), .ref (d 7), .ref (d 8), .int (nI (S.2.2.2.length))])), (d 1, .inl (cI, (804, .inl K'))), (d 2, .inl (cI, (804, .inl V'))), (d 3, .inl (cI, (4, .inl (upd sz (b) (nI (((S.1 b).length) - 1)))))), (d 4, .inl (cI, (3, .inl cb))), (d 5, .inl (cI, (3, .inl ck))), (d 6, .inl (cI, (3, .inl ca))), (d 7, .inl (cZ, (3, .inl it))), (d 8, .inl (cI, (6000, .inl ou)))] := hD
      have ei : i + 1 = (S.1 b).length := by omega
      rw [ei] at hk1 hv1
      exact w_v (PB := fun H => MdAt D cI cZ d (upB S b ((S.1 b).eraseIdx j)) th H) ⟨K', V', _, cb, ck, ca, it, ou, hP, hMB.era hb4 hj (by rw [upd_at, if_pos rfl]) (fun o ho => by rw [upd_at, if_neg ho]) hk1 hv1 (fun q hq => ⟨hk2 q hq, hv2 q hq⟩), hMC, hMO⟩ hS hx hb hr hlocks dX5_takes_82
    · refine lv_aload_n hx hb dX5_takes_14 rfl (lv_at hl 1 rfl) ?_
      refine gf_X5_7 hx hb hG hown hK hP 0 rfl rfl dX5_takes_15 ?_
      refine lv_sipush (v := nI 201) hx hb dX5_takes_18 (by decide) ?_
      refine lv_iload_n hx hb dX5_takes_21 rfl (lv_at hl 2 rfl) ?_
      refine x_imul (v := nI (201 * b)) hx hb dX5_takes_22 (pk_mul _ _) ?_
      refine lv_iload_n hx hb dX5_takes_23 rfl (lv_at hl 0 rfl) ?_
      refine x_iadd (v := nI ((201 * b) + i)) hx hb dX5_takes_24 (nI_add _ _) ?_
      refine lv_aload_n hx hb dX5_takes_25 rfl (lv_at hl 1 rfl) ?_
      refine gf_X5_7 hx hb hG hown hK hP 0 rfl rfl dX5_takes_26 ?_
      refine lv_sipush (v := nI 201) hx hb dX5_takes_29 (by decide) ?_
      refine lv_iload_n hx hb dX5_takes_32 rfl (lv_at hl 2 rfl) ?_
      refine x_imul (v := nI (201 * b)) hx hb dX5_takes_33 (pk_mul _ _) ?_
      refine lv_iload_n hx hb dX5_takes_34 rfl (lv_at hl 0 rfl) ?_
      refine x_iadd (v := nI ((201 * b) + i)) hx hb dX5_takes_35 (nI_add _ _) ?_
      refine lv_iconst (v := nI 1) hx hb dX5_takes_36 (by decide) ?_
      refine x_iadd (v := nI (((201 * b) + i) + 1)) hx hb dX5_takes_37 (nI_add _ _) ?_
      refine x_iald hx hb hK hP 1 0 rfl rfl (by omega) (by decide) dX5_takes_38 ?_
      refine x_iast hx hb hK hP hD hS 1 0 rfl rfl (by omega) (by decide) dX5_takes_39 (fun H locs hP hD hS => ?_)
      have hP : va_P D vwCl [(d 0, .inr (5, [.ref (d 1), .ref (d 2), .ref (d 3), .int (nI (S.2.1)), .int (th), .ref (d 4), .ref (d 5), .ref (d 6), .ref (d 7), .ref (d 8), .int (nI (S.2.2.2.length))])), (d 1, .inl (cI, (804, .inl (upd K' ((201 * b) + i) (K' (((201 * b) + i) + 1)))))), (d 2, .inl (cI, (804, .inl V'))), (d 3, .inl (cI, (4, .inl sz))), (d 4, .inl (cI, (3, .inl cb))), (d 5, .inl (cI, (3, .inl ck))), (d 6, .inl (cI, (3, .inl ca))), (d 7, .inl (cZ, (3, .inl it))), (d 8, .inl (cI, (6000, .inl ou)))] H := hP
      have hD : va_D (Ao d 9) [(d 0, .inr (5, [.ref (d 1), .ref (d 2), .ref (d 3), .int (nI (S.2.1)), .int (th), .ref (d 4), .ref (d 5), .ref (d 6), .ref (d 7), .ref (d 8), .int (nI (S.2.2.2.length))])), (d 1, .inl (cI, (804, .inl (upd K' ((201 * b) + i) (K' (((201 * b) + i) + 1)))))), (d 2, .inl (cI, (804, .inl V'))), (d 3, .inl (cI, (4, .inl sz))), (d 4, .inl (cI, (3, .inl cb))), (d 5, .inl (cI, (3, .inl ck))), (d 6, .inl (cI, (3, .inl ca))), (d 7, .inl (cZ, (3, .inl it))), (d 8, .inl (cI, (6000, .inl ou)))] := hD
      refine lv_aload_n hx hb dX5_takes_40 rfl (lv_at hl 1 rfl) ?_
      refine gf_X5_13 hx hb hG hown hK hP 0 rfl rfl dX5_takes_41 ?_
      refine lv_sipush (v := nI 201) hx hb dX5_takes_44 (by decide) ?_
      refine lv_iload_n hx hb dX5_takes_47 rfl (lv_at hl 2 rfl) ?_
      refine x_imul (v := nI (201 * b)) hx hb dX5_takes_48 (pk_mul _ _) ?_
      refine lv_iload_n hx hb dX5_takes_49 rfl (lv_at hl 0 rfl) ?_
      refine x_iadd (v := nI ((201 * b) + i)) hx hb dX5_takes_50 (nI_add _ _) ?_
      refine lv_aload_n hx hb dX5_takes_51 rfl (lv_at hl 1 rfl) ?_
      refine gf_X5_13 hx hb hG hown hK hP 0 rfl rfl dX5_takes_52 ?_
      refine lv_sipush (v := nI 201) hx hb dX5_takes_55 (by decide) ?_
      refine lv_iload_n hx hb dX5_takes_58 rfl (lv_at hl 2 rfl) ?_
      refine x_imul (v := nI (201 * b)) hx hb dX5_takes_59 (pk_mul _ _) ?_
      refine lv_iload_n hx hb dX5_takes_60 rfl (lv_at hl 0 rfl) ?_
      refine x_iadd (v := nI ((201 * b) + i)) hx hb dX5_takes_61 (nI_add _ _) ?_
      refine lv_iconst (v := nI 1) hx hb dX5_takes_62 (by decide) ?_
      refine x_iadd (v := nI (((201 * b) + i) + 1)) hx hb dX5_takes_63 (nI_add _ _) ?_
      refine x_iald hx hb hK hP 2 0 rfl rfl (by omega) (by decide) dX5_takes_64 ?_
      refine x_iast hx hb hK hP hD hS 2 0 rfl rfl (by omega) (by decide) dX5_takes_65 (fun H locs hP hD hS => ?_)
      have hP : va_P D vwCl [(d 0, .inr (5, [.ref (d 1), .ref (d 2), .ref (d 3), .int (nI (S.2.1)), .int (th), .ref (d 4), .ref (d 5), .ref (d 6), .ref (d 7), .ref (d 8), .int (nI (S.2.2.2.length))])), (d 1, .inl (cI, (804, .inl (upd K' ((201 * b) + i) (K' (((201 * b) + i) + 1)))))), (d 2, .inl (cI, (804, .inl (upd V' ((201 * b) + i) (V' (((201 * b) + i) + 1)))))), (d 3, .inl (cI, (4, .inl sz))), (d 4, .inl (cI, (3, .inl cb))), (d 5, .inl (cI, (3, .inl ck))), (d 6, .inl (cI, (3, .inl ca))), (d 7, .inl (cZ, (3, .inl it))), (d 8, .inl (cI, (6000, .inl ou)))] H := hP
      have hD : va_D (Ao d 9) [(d 0, .inr (5, [.ref (d 1), .ref (d 2), .ref (d 3), .int (nI (S.2.1)), .int (th), .ref (d 4), .ref (d 5), .ref (d 6), .ref (d 7), .ref (d 8), .int (nI (S.2.2.2.length))])), (d 1, .inl (cI, (804, .inl (upd K' ((201 * b) + i) (K' (((201 * b) + i) + 1)))))), (d 2, .inl (cI, (804, .inl (upd V' ((201 * b) + i) (V' (((201 * b) + i) + 1)))))), (d 3, .inl (cI, (4, .inl sz))), (d 4, .inl (cI, (3, .inl cb))), (d 5, .inl (cI, (3, .inl ck))), (d 6, .inl (cI, (3, .inl ca))), (d 7, .inl (cZ, (3, .inl it))), (d 8, .inl (cI, (6000, .inl ou)))] := hD
      refine x_iinc (k := 0) (lv' := [(3, .int (nI (i + 1))), (0, .ref (d 0)), (1, .int (nI (b))), (2, .int (nI (j)))]) hx hb dX5_takes_66 hl rfl (by decide) rfl (fun ls hl => ?_)
      refine lv_goto (tgt := 2) hx hb dX5_takes_69 (by decide) ?_
      exact ih (i + 1) _ _ (by omega) (by omega) (by omega) (hk1.stepA h2) (hv1.stepA h2) (upd_out (by omega) hk2) (upd_out (by omega) hv2) H locs hP hD hS ls (lv_sub hl [0, 1, 2, 3] rfl)
theorem MdB.push {B : Nat → Bk} {K V sz : Nat → Int32} (h : MdB B K V sz) {b : Nat} (hb : b < 4) (hl : (B b).length ≤ 200) (x y z : Int32) (hz : z = nI ((B b).length + 1)) : MdB (va_up B b (B b ++ [(x, y)])) (upd K (201 * b + (B b).length) x) (upd V (201 * b + (B b).length) y) (upd sz b z) := by
  obtain ⟨-, g2, g3⟩ := h b hb
  refine h.put (B b ++ [(x, y)]) (by simp; omega) (by rw [upd_at, if_pos rfl, hz]; simp) (fun o ho => by rw [upd_at, if_neg ho]) (fun j hj => ?_) (fun q hq => by rw [upd_at, upd_at, if_neg (by omega), if_neg (by omega)]; exact ⟨rfl, rfl⟩)
  have hj' : j < (B b).length + 1 := by simpa using hj
  rw [upd_at, upd_at]
  by_cases e : j = (B b).length
  · subst e
    rw [if_pos rfl, if_pos rfl, kf_end, vf_end]
    exact ⟨rfl, rfl⟩
  · rw [if_neg (by omega), if_neg (by omega), kf_app (by omega), vf_app (by omega)]
    exact g3 j (by omega)
theorem MdB.val {B : Nat → Bk} {K V sz : Nat → Int32} (h : MdB B K V sz) {b i : Nat} (hb : b < 4) (hi : i < (B b).length) (y : Int32) : MdB (va_up B b (sv (B b) i y)) K (upd V (201 * b + i) y) sz := by
  obtain ⟨g1, g2, g3⟩ := h b hb
  refine h.put (sv (B b) i y) (by rw [sv_len]; omega) (by rw [sv_len]; exact g1) (fun o ho => rfl) (fun j hj => ?_) (fun q hq => by rw [upd_at, if_neg (by omega)]; exact ⟨rfl, rfl⟩)
  rw [sv_len] at hj
  rw [kf_sv, vf_sv _ hi, upd_at]
  refine ⟨(g3 j hj).1, ?_⟩
  by_cases e : j = i
  · rw [if_pos e, if_pos (by omega)]
  · rw [if_neg e, if_neg (by omega)]
    exact (g3 j hj).2
theorem upB_up (S : St) (b : Nat) (L M : Bk) : upB (upB S b L) b M = upB S b M := by
  unfold upB
  congr 1
  funext j
  show (if j = b then M else if j = b then L else S.1 j) = if j = b then M else S.1 j
  split <;> rfl
theorem upB_at (S : St) (b : Nat) (L : Bk) : (upB S b L).1 b = L := if_pos rfl
theorem upB_ne (S : St) {b o : Nat} (L : Bk) (h : o ≠ b) : (upB S b L).1 o = S.1 o := if_neg h
set_option maxHeartbeats 4000000 in
set_option maxRecDepth 100000 in
theorem c5_comes_pl (l : Launch) (D : va_G) (cI cZ : ClassId) (d : Nat → Nat) (S : St) (th : Int32) (b : Nat) (x y : Int32) (hb4 : b < 4) (hl2 : (S.1 b).length ≤ 200) (hap : Ap d 9) (hb2 : b ≠ 2) : Met l yX5_comes (ws_ yX5_comes cX5_comes 4 none) (rmN 1) (va_Pc [.ref (d 0), .int (nI (b)), .int (x), .int (y)] (pz D [(cI, .int), (cZ, .boolean)] (fun H => MdAt D cI cZ d S th H))) (Wq none (fun H => MdAt D cI cZ d (upB S b (S.1 b ++ [(x, y)])) th H) (Ao d 9)) 0 0 (Ao d 9) := by
  refine m_start (by decide) (Nat.le_of_ble_eq_true rfl) ?_
  intro p e s m below meth c hx hb hr hG hown hlocks hml hB ls hl
  have hl : lv_has ls 4 [(0, .ref (d 0)), (1, .int (nI (b))), (2, .int (x)), (3, .int (y))] := hl
  obtain ⟨hB0, hK⟩ := hB
  obtain ⟨K, V, sz, cb, ck, ca, it, ou, hP, hMB, hMC, hMO⟩ := id hB0
  have hD : va_D (Ao d 9) [(d 0, .inr (5, [.ref (d 1), .ref (d 2), .ref (d 3), .int (nI (S.2.1)), .int (th), .ref (d 4), .ref (d 5), .ref (d 6), .ref (d 7), .ref (d 8), .int (nI (S.2.2.2.length))])), (d 1, .inl (cI, (804, .inl K))), (d 2, .inl (cI, (804, .inl V))), (d 3, .inl (cI, (4, .inl sz))), (d 4, .inl (cI, (3, .inl cb))), (d 5, .inl (cI, (3, .inl ck))), (d 6, .inl (cI, (3, .inl ca))), (d 7, .inl (cZ, (3, .inl it))), (d 8, .inl (cI, (6000, .inl ou)))] := hap.D9
  have hS : va_S (Ao d 9) s.heap s.heap [] := va_S.rf
  have elen : (S.1 b ++ [(x, y)]).length = (S.1 b).length + 1 := by simp
  have hMB2 := hMB.push hb4 hl2 x y _ rfl
  refine lv_aload_n hx hb dX5_comes_0 rfl (lv_at hl 0 rfl) ?_
  refine gf_X5_7 hx hb hG hown hK hP 0 rfl rfl dX5_comes_1 ?_
  refine lv_sipush (v := nI 201) hx hb dX5_comes_4 (by decide) ?_
  refine lv_iload_n hx hb dX5_comes_7 rfl (lv_at hl 1 rfl) ?_
  refine x_imul (v := nI (201 * b)) hx hb dX5_comes_8 (pk_mul _ _) ?_
  refine lv_aload_n hx hb dX5_comes_9 rfl (lv_at hl 0 rfl) ?_
  refine gf_X5_16 hx hb hG hown hK hP 0 rfl rfl dX5_comes_10 ?_
  refine lv_iload_n hx hb dX5_comes_13 rfl (lv_at hl 1 rfl) ?_
  refine x_iald hx hb hK hP 3 0 rfl rfl (by omega) (by decide) dX5_comes_14 ?_
  rw [(hMB (b) (by omega)).1]
  refine x_iadd (v := nI ((201 * b) + ((S.1 b).length))) hx hb dX5_comes_15 (nI_add _ _) ?_
  refine lv_iload_n hx hb dX5_comes_16 rfl (lv_at hl 2 rfl) ?_
  refine x_iast hx hb hK hP hD hS 1 0 rfl rfl (by omega) (by decide) dX5_comes_17 (fun H locs hP hD hS => ?_)
  have hP : va_P D vwCl [(d 0, .inr (5, [.ref (d 1), .ref (d 2), .ref (d 3), .int (nI (S.2.1)), .int (th), .ref (d 4), .ref (d 5), .ref (d 6), .ref (d 7), .ref (d 8), .int (nI (S.2.2.2.length))])), (d 1, .inl (cI, (804, .inl (upd K ((201 * b) + ((S.1 b).length)) (x))))), (d 2, .inl (cI, (804, .inl V))), (d 3, .inl (cI, (4, .inl sz))), (d 4, .inl (cI, (3, .inl cb))), (d 5, .inl (cI, (3, .inl ck))), (d 6, .inl (cI, (3, .inl ca))), (d 7, .inl (cZ, (3, .inl it))), (d 8, .inl (cI, (6000, .inl ou)))] H := hP
  have hD : va_D (Ao d 9) [(d 0, .inr (5, [.ref (d 1), .ref (d 2), .ref (d 3), .int (nI (S.2.1)), .int (th), .ref (d 4), .ref (d 5), .ref (d 6), .ref (d 7), .ref (d 8), .int (nI (S.2.2.2.length))])), (d 1, .inl (cI, (804, .inl (upd K ((201 * b) + ((S.1 b).length)) (x))))), (d 2, .inl (cI, (804, .inl V))), (d 3, .inl (cI, (4, .inl sz))), (d 4, .inl (cI, (3, .inl cb))), (d 5, .inl (cI, (3, .inl ck))), (d 6, .inl (cI, (3, .inl ca))), (d 7, .inl (cZ, (3, .inl it))), (d 8, .inl (cI, (6000, .inl ou)))] := hD
  refine lv_aload_n hx hb dX5_comes_18 rfl (lv_at hl 0 rfl) ?_
  refine gf_X5_13 hx hb hG hown hK hP 0 rfl rfl dX5_comes_19 ?_
  refine lv_sipush (v := nI 201) hx hb dX5_comes_22 (by decide) ?_
  refine lv_iload_n hx hb dX5_comes_25 rfl (lv_at hl 1 rfl) ?_
  refine x_imul (v := nI (201 * b)) hx hb dX5_comes_26 (pk_mul _ _) ?_
  refine lv_aload_n hx hb dX5_comes_27 rfl (lv_at hl 0 rfl) ?_
  refine gf_X5_16 hx hb hG hown hK hP 0 rfl rfl dX5_comes_28 ?_
  refine lv_iload_n hx hb dX5_comes_31 rfl (lv_at hl 1 rfl) ?_
  refine x_iald hx hb hK hP 3 0 rfl rfl (by omega) (by decide) dX5_comes_32 ?_
  rw [(hMB (b) (by omega)).1]
  refine x_iadd (v := nI ((201 * b) + ((S.1 b).length))) hx hb dX5_comes_33 (nI_add _ _) ?_
  refine lv_iload_n hx hb dX5_comes_34 rfl (lv_at hl 3 rfl) ?_
  refine x_iast hx hb hK hP hD hS 2 0 rfl rfl (by omega) (by decide) dX5_comes_35 (fun H locs hP hD hS => ?_)
  have hP : va_P D vwCl [(d 0, .inr (5, [.ref (d 1), .ref (d 2), .ref (d 3), .int (nI (S.2.1)), .int (th), .ref (d 4), .ref (d 5), .ref (d 6), .ref (d 7), .ref (d 8), .int (nI (S.2.2.2.length))])), (d 1, .inl (cI, (804, .inl (upd K ((201 * b) + ((S.1 b).length)) (x))))), (d 2, .inl (cI, (804, .inl (upd V ((201 * b) + ((S.1 b).length)) (y))))), (d 3, .inl (cI, (4, .inl sz))), (d 4, .inl (cI, (3, .inl cb))), (d 5, .inl (cI, (3, .inl ck))), (d 6, .inl (cI, (3, .inl ca))), (d 7, .inl (cZ, (3, .inl it))), (d 8, .inl (cI, (6000, .inl ou)))] H := hP
  have hD : va_D (Ao d 9) [(d 0, .inr (5, [.ref (d 1), .ref (d 2), .ref (d 3), .int (nI (S.2.1)), .int (th), .ref (d 4), .ref (d 5), .ref (d 6), .ref (d 7), .ref (d 8), .int (nI (S.2.2.2.length))])), (d 1, .inl (cI, (804, .inl (upd K ((201 * b) + ((S.1 b).length)) (x))))), (d 2, .inl (cI, (804, .inl (upd V ((201 * b) + ((S.1 b).length)) (y))))), (d 3, .inl (cI, (4, .inl sz))), (d 4, .inl (cI, (3, .inl cb))), (d 5, .inl (cI, (3, .inl ck))), (d 6, .inl (cI, (3, .inl ca))), (d 7, .inl (cZ, (3, .inl it))), (d 8, .inl (cI, (6000, .inl ou)))] := hD
  refine lv_aload_n hx hb dX5_comes_36 rfl (lv_at hl 0 rfl) ?_
  refine gf_X5_16 hx hb hG hown hK hP 0 rfl rfl dX5_comes_37 ?_
  refine lv_iload_n hx hb dX5_comes_40 rfl (lv_at hl 1 rfl) ?_
  refine lv_dup2_11 hx hb dX5_comes_41 rfl rfl ?_
  refine x_iald hx hb hK hP 3 0 rfl rfl (by omega) (by decide) dX5_comes_42 ?_
  rw [(hMB (b) (by omega)).1]
  refine lv_iconst (v := nI 1) hx hb dX5_comes_43 (by decide) ?_
  refine x_iadd (v := nI (((S.1 b).length) + 1)) hx hb dX5_comes_44 (nI_add _ _) ?_
  refine x_iast hx hb hK hP hD hS 3 0 rfl rfl (by omega) (by decide) dX5_comes_45 (fun H locs hP hD hS => ?_)
  have hP : va_P D vwCl [(d 0, .inr (5, [.ref (d 1), .ref (d 2), .ref (d 3), .int (nI (S.2.1)), .int (th), .ref (d 4), .ref (d 5), .ref (d 6), .ref (d 7), .ref (d 8), .int (nI (S.2.2.2.length))])), (d 1, .inl (cI, (804, .inl (upd K ((201 * b) + ((S.1 b).length)) (x))))), (d 2, .inl (cI, (804, .inl (upd V ((201 * b) + ((S.1 b).length)) (y))))), (d 3, .inl (cI, (4, .inl (upd sz (b) (nI (((S.1 b).length) + 1)))))), (d 4, .inl (cI, (3, .inl cb))), (d 5, .inl (cI, (3, .inl ck))), (d 6, .inl (cI, (3, .inl ca))), (d 7, .inl (cZ, (3, .inl it))), (d 8, .inl (cI, (6000, .inl ou)))] H := hP
  have hD : va_D (Ao d 9) [(d 0, .inr (5, [.ref (d 1), .ref (d 2), .ref (d 3), .int (nI (S.2.1)), .int (th), .ref (d 4), .ref (d 5), .ref (d 6), .ref (d 7), .ref (d 8), .int (nI (S.2.2.2.length))])), (d 1, .inl (cI, (804, .inl (upd K ((201 * b) + ((S.1 b).length)) (x))))), (d 2, .inl (cI, (804, .inl (upd V ((201 * b) + ((S.1 b).length)) (y))))), (d 3, .inl (cI, (4, .inl (upd sz (b) (nI (((S.1 b).length) + 1)))))), (d 4, .inl (cI, (3, .inl cb))), (d 5, .inl (cI, (3, .inl ck))), (d 6, .inl (cI, (3, .inl ca))), (d 7, .inl (cZ, (3, .inl it))), (d 8, .inl (cI, (6000, .inl ou)))] := hD
  refine lv_iload_n hx hb dX5_comes_46 rfl (lv_at hl 1 rfl) ?_
  refine lv_iconst (v := nI 2) hx hb dX5_comes_47 (by decide) ?_
  refine x_cmp_ne (tgt := 70) hx hb dX5_comes_48 (by decide) (by omega) (by omega) (fun zc1 => ?_) (fun zc1 => False.elim (by first | omega | contradiction | exact absurd zc1 (m1_ne _ (by omega)) | exact absurd zc1 (by decide) | exact absurd (Eq.symm zc1) (m1_ne _ (by omega)) | (simp_all; done)))
  exact w_v (PB := fun H => MdAt D cI cZ d (upB S b (S.1 b ++ [(x, y)])) th H) ⟨_, _, _, cb, ck, ca, it, ou, hP, hMB2, hMC, hMO⟩ hS hx hb hr hlocks dX5_comes_70
set_option maxHeartbeats 4000000 in
set_option maxRecDepth 100000 in
theorem c5_comes_bs (l : Launch) (D : va_G) (cI cZ : ClassId) (d : Nat → Nat) (S : St) (th : Int32) (b : Nat) (x y : Int32) (hb4 : b < 4) (hl2 : (S.1 b).length ≤ 200) (hap : Ap d 9) (hb2 : b = 2) (hbd : (S.1 b).length + 1 ≤ S.2.1) (hbd2 : S.2.1 ≤ 200) : Met l yX5_comes (ws_ yX5_comes cX5_comes 4 none) (rmN 1) (va_Pc [.ref (d 0), .int (nI (b)), .int (x), .int (y)] (pz D [(cI, .int), (cZ, .boolean)] (fun H => MdAt D cI cZ d S th H))) (Wq none (fun H => MdAt D cI cZ d (upB S b (S.1 b ++ [(x, y)])) th H) (Ao d 9)) 0 0 (Ao d 9) := by
  refine m_start (by decide) (Nat.le_of_ble_eq_true rfl) ?_
  intro p e s m below meth c hx hb hr hG hown hlocks hml hB ls hl
  have hl : lv_has ls 4 [(0, .ref (d 0)), (1, .int (nI (b))), (2, .int (x)), (3, .int (y))] := hl
  obtain ⟨hB0, hK⟩ := hB
  obtain ⟨K, V, sz, cb, ck, ca, it, ou, hP, hMB, hMC, hMO⟩ := id hB0
  have hD : va_D (Ao d 9) [(d 0, .inr (5, [.ref (d 1), .ref (d 2), .ref (d 3), .int (nI (S.2.1)), .int (th), .ref (d 4), .ref (d 5), .ref (d 6), .ref (d 7), .ref (d 8), .int (nI (S.2.2.2.length))])), (d 1, .inl (cI, (804, .inl K))), (d 2, .inl (cI, (804, .inl V))), (d 3, .inl (cI, (4, .inl sz))), (d 4, .inl (cI, (3, .inl cb))), (d 5, .inl (cI, (3, .inl ck))), (d 6, .inl (cI, (3, .inl ca))), (d 7, .inl (cZ, (3, .inl it))), (d 8, .inl (cI, (6000, .inl ou)))] := hap.D9
  have hS : va_S (Ao d 9) s.heap s.heap [] := va_S.rf
  have elen : (S.1 b ++ [(x, y)]).length = (S.1 b).length + 1 := by simp
  have hMB2 := hMB.push hb4 hl2 x y _ rfl
  refine lv_aload_n hx hb dX5_comes_0 rfl (lv_at hl 0 rfl) ?_
  refine gf_X5_7 hx hb hG hown hK hP 0 rfl rfl dX5_comes_1 ?_
  refine lv_sipush (v := nI 201) hx hb dX5_comes_4 (by decide) ?_
  refine lv_iload_n hx hb dX5_comes_7 rfl (lv_at hl 1 rfl) ?_
  refine x_imul (v := nI (201 * b)) hx hb dX5_comes_8 (pk_mul _ _) ?_
  refine lv_aload_n hx hb dX5_comes_9 rfl (lv_at hl 0 rfl) ?_
  refine gf_X5_16 hx hb hG hown hK hP 0 rfl rfl dX5_comes_10 ?_
  refine lv_iload_n hx hb dX5_comes_13 rfl (lv_at hl 1 rfl) ?_
  refine x_iald hx hb hK hP 3 0 rfl rfl (by omega) (by decide) dX5_comes_14 ?_
  rw [(hMB (b) (by omega)).1]
  refine x_iadd (v := nI ((201 * b) + ((S.1 b).length))) hx hb dX5_comes_15 (nI_add _ _) ?_
  refine lv_iload_n hx hb dX5_comes_16 rfl (lv_at hl 2 rfl) ?_
  refine x_iast hx hb hK hP hD hS 1 0 rfl rfl (by omega) (by decide) dX5_comes_17 (fun H locs hP hD hS => ?_)
  have hP : va_P D vwCl [(d 0, .inr (5, [.ref (d 1), .ref (d 2), .ref (d 3), .int (nI (S.2.1)), .int (th), .ref (d 4), .ref (d 5), .ref (d 6), .ref (d 7), .ref (d 8), .int (nI (S.2.2.2.length))])), (d 1, .inl (cI, (804, .inl (upd K ((201 * b) + ((S.1 b).length)) (x))))), (d 2, .inl (cI, (804, .inl V))), (d 3, .inl (cI, (4, .inl sz))), (d 4, .inl (cI, (3, .inl cb))), (d 5, .inl (cI, (3, .inl ck))), (d 6, .inl (cI, (3, .inl ca))), (d 7, .inl (cZ, (3, .inl it))), (d 8, .inl (cI, (6000, .inl ou)))] H := hP
  have hD : va_D (Ao d 9) [(d 0, .inr (5, [.ref (d 1), .ref (d 2), .ref (d 3), .int (nI (S.2.1)), .int (th), .ref (d 4), .ref (d 5), .ref (d 6), .ref (d 7), .ref (d 8), .int (nI (S.2.2.2.length))])), (d 1, .inl (cI, (804, .inl (upd K ((201 * b) + ((S.1 b).length)) (x))))), (d 2, .inl (cI, (804, .inl V))), (d 3, .inl (cI, (4, .inl sz))), (d 4, .inl (cI, (3, .inl cb))), (d 5, .inl (cI, (3, .inl ck))), (d 6, .inl (cI, (3, .inl ca))), (d 7, .inl (cZ, (3, .inl it))), (d 8, .inl (cI, (6000, .inl ou)))] := hD
  refine lv_aload_n hx hb dX5_comes_18 rfl (lv_at hl 0 rfl) ?_
  refine gf_X5_13 hx hb hG hown hK hP 0 rfl rfl dX5_comes_19 ?_
  refine lv_sipush (v := nI 201) hx hb dX5_comes_22 (by decide) ?_
  refine lv_iload_n hx hb dX5_comes_25 rfl (lv_at hl 1 rfl) ?_
  refine x_imul (v := nI (201 * b)) hx hb dX5_comes_26 (pk_mul _ _) ?_
  refine lv_aload_n hx hb dX5_comes_27 rfl (lv_at hl 0 rfl) ?_
  refine gf_X5_16 hx hb hG hown hK hP 0 rfl rfl dX5_comes_28 ?_
  refine lv_iload_n hx hb dX5_comes_31 rfl (lv_at hl 1 rfl) ?_
  refine x_iald hx hb hK hP 3 0 rfl rfl (by omega) (by decide) dX5_comes_32 ?_
  rw [(hMB (b) (by omega)).1]
  refine x_iadd (v := nI ((201 * b) + ((S.1 b).length))) hx hb dX5_comes_33 (nI_add _ _) ?_
  refine lv_iload_n hx hb dX5_comes_34 rfl (lv_at hl 3 rfl) ?_
  refine x_iast hx hb hK hP hD hS 2 0 rfl rfl (by omega) (by decide) dX5_comes_35 (fun H locs hP hD hS => ?_)
  have hP : va_P D vwCl [(d 0, .inr (5, [.ref (d 1), .ref (d 2), .ref (d 3), .int (nI (S.2.1)), .int (th), .ref (d 4), .ref (d 5), .ref (d 6), .ref (d 7), .ref (d 8), .int (nI (S.2.2.2.length))])), (d 1, .inl (cI, (804, .inl (upd K ((201 * b) + ((S.1 b).length)) (x))))), (d 2, .inl (cI, (804, .inl (upd V ((201 * b) + ((S.1 b).length)) (y))))), (d 3, .inl (cI, (4, .inl sz))), (d 4, .inl (cI, (3, .inl cb))), (d 5, .inl (cI, (3, .inl ck))), (d 6, .inl (cI, (3, .inl ca))), (d 7, .inl (cZ, (3, .inl it))), (d 8, .inl (cI, (6000, .inl ou)))] H := hP
  have hD : va_D (Ao d 9) [(d 0, .inr (5, [.ref (d 1), .ref (d 2), .ref (d 3), .int (nI (S.2.1)), .int (th), .ref (d 4), .ref (d 5), .ref (d 6), .ref (d 7), .ref (d 8), .int (nI (S.2.2.2.length))])), (d 1, .inl (cI, (804, .inl (upd K ((201 * b) + ((S.1 b).length)) (x))))), (d 2, .inl (cI, (804, .inl (upd V ((201 * b) + ((S.1 b).length)) (y))))), (d 3, .inl (cI, (4, .inl sz))), (d 4, .inl (cI, (3, .inl cb))), (d 5, .inl (cI, (3, .inl ck))), (d 6, .inl (cI, (3, .inl ca))), (d 7, .inl (cZ, (3, .inl it))), (d 8, .inl (cI, (6000, .inl ou)))] := hD
  refine lv_aload_n hx hb dX5_comes_36 rfl (lv_at hl 0 rfl) ?_
  refine gf_X5_16 hx hb hG hown hK hP 0 rfl rfl dX5_comes_37 ?_
  refine lv_iload_n hx hb dX5_comes_40 rfl (lv_at hl 1 rfl) ?_
  refine lv_dup2_11 hx hb dX5_comes_41 rfl rfl ?_
  refine x_iald hx hb hK hP 3 0 rfl rfl (by omega) (by decide) dX5_comes_42 ?_
  rw [(hMB (b) (by omega)).1]
  refine lv_iconst (v := nI 1) hx hb dX5_comes_43 (by decide) ?_
  refine x_iadd (v := nI (((S.1 b).length) + 1)) hx hb dX5_comes_44 (nI_add _ _) ?_
  refine x_iast hx hb hK hP hD hS 3 0 rfl rfl (by omega) (by decide) dX5_comes_45 (fun H locs hP hD hS => ?_)
  have hP : va_P D vwCl [(d 0, .inr (5, [.ref (d 1), .ref (d 2), .ref (d 3), .int (nI (S.2.1)), .int (th), .ref (d 4), .ref (d 5), .ref (d 6), .ref (d 7), .ref (d 8), .int (nI (S.2.2.2.length))])), (d 1, .inl (cI, (804, .inl (upd K ((201 * b) + ((S.1 b).length)) (x))))), (d 2, .inl (cI, (804, .inl (upd V ((201 * b) + ((S.1 b).length)) (y))))), (d 3, .inl (cI, (4, .inl (upd sz (b) (nI (((S.1 b).length) + 1)))))), (d 4, .inl (cI, (3, .inl cb))), (d 5, .inl (cI, (3, .inl ck))), (d 6, .inl (cI, (3, .inl ca))), (d 7, .inl (cZ, (3, .inl it))), (d 8, .inl (cI, (6000, .inl ou)))] H := hP
  have hD : va_D (Ao d 9) [(d 0, .inr (5, [.ref (d 1), .ref (d 2), .ref (d 3), .int (nI (S.2.1)), .int (th), .ref (d 4), .ref (d 5), .ref (d 6), .ref (d 7), .ref (d 8), .int (nI (S.2.2.2.length))])), (d 1, .inl (cI, (804, .inl (upd K ((201 * b) + ((S.1 b).length)) (x))))), (d 2, .inl (cI, (804, .inl (upd V ((201 * b) + ((S.1 b).length)) (y))))), (d 3, .inl (cI, (4, .inl (upd sz (b) (nI (((S.1 b).length) + 1)))))), (d 4, .inl (cI, (3, .inl cb))), (d 5, .inl (cI, (3, .inl ck))), (d 6, .inl (cI, (3, .inl ca))), (d 7, .inl (cZ, (3, .inl it))), (d 8, .inl (cI, (6000, .inl ou)))] := hD
  refine lv_iload_n hx hb dX5_comes_46 rfl (lv_at hl 1 rfl) ?_
  refine lv_iconst (v := nI 2) hx hb dX5_comes_47 (by decide) ?_
  refine x_cmp_ne (tgt := 70) hx hb dX5_comes_48 (by decide) (by omega) (by omega) (fun zc1 => False.elim (by first | omega | contradiction | exact absurd zc1 (m1_ne _ (by omega)) | exact absurd zc1 (by decide) | exact absurd (Eq.symm zc1) (m1_ne _ (by omega)) | (simp_all; done))) (fun zc1 => ?_)
  refine lv_aload_n hx hb dX5_comes_51 rfl (lv_at hl 0 rfl) ?_
  refine gf_X5_16 hx hb hG hown hK hP 0 rfl rfl dX5_comes_52 ?_
  refine lv_iload_n hx hb dX5_comes_55 rfl (lv_at hl 1 rfl) ?_
  refine x_iald hx hb hK hP 3 0 rfl rfl (by omega) (by decide) dX5_comes_56 ?_
  rw [show ((upd sz (b) (nI (((S.1 b).length) + 1)))) b = nI ((S.1 b).length + 1) from by rw [upd_at, if_pos rfl]]
  refine lv_aload_n hx hb dX5_comes_57 rfl (lv_at hl 0 rfl) ?_
  refine gf_X5_19 hx hb hG hown hK hP 0 rfl rfl dX5_comes_58 ?_
  refine x_cmp_le (tgt := 70) hx hb dX5_comes_61 (by decide) (by omega) (by omega) (fun zc2 => ?_) (fun zc2 => False.elim (by first | omega | contradiction | exact absurd zc2 (m1_ne _ (by omega)) | exact absurd zc2 (by decide) | exact absurd (Eq.symm zc2) (m1_ne _ (by omega)) | (simp_all; done)))
  exact w_v (PB := fun H => MdAt D cI cZ d (upB S b (S.1 b ++ [(x, y)])) th H) ⟨_, _, _, cb, ck, ca, it, ou, hP, hMB2, hMC, hMO⟩ hS hx hb hr hlocks dX5_comes_70
set_option maxHeartbeats 4000000 in
set_option maxRecDepth 100000 in
theorem c5_comes_bt (l : Launch) (D : va_G) (cI cZ : ClassId) (d : Nat → Nat) (S : St) (th : Int32) (b : Nat) (x y : Int32) (hb4 : b < 4) (hl2 : (S.1 b).length ≤ 200) (hap : Ap d 9) (hb2 : b = 2) (hbd : S.2.1 < (S.1 b).length + 1) (hbd2 : S.2.1 ≤ 200) : Met l yX5_comes (ws_ yX5_comes cX5_comes 4 none) (rmN 1) (va_Pc [.ref (d 0), .int (nI (b)), .int (x), .int (y)] (pz D [(cI, .int), (cZ, .boolean)] (fun H => MdAt D cI cZ d S th H))) (Wq none (fun H => MdAt D cI cZ d (upB S b ((S.1 b ++ [(x, y)]).eraseIdx 0)) th H) (Ao d 9)) 0 0 (Ao d 9) := by
  refine m_start (by decide) (Nat.le_of_ble_eq_true rfl) ?_
  intro p e s m below meth c hx hb hr hG hown hlocks hml hB ls hl
  have hl : lv_has ls 4 [(0, .ref (d 0)), (1, .int (nI (b))), (2, .int (x)), (3, .int (y))] := hl
  obtain ⟨hB0, hK⟩ := hB
  obtain ⟨K, V, sz, cb, ck, ca, it, ou, hP, hMB, hMC, hMO⟩ := id hB0
  have hD : va_D (Ao d 9) [(d 0, .inr (5, [.ref (d 1), .ref (d 2), .ref (d 3), .int (nI (S.2.1)), .int (th), .ref (d 4), .ref (d 5), .ref (d 6), .ref (d 7), .ref (d 8), .int (nI (S.2.2.2.length))])), (d 1, .inl (cI, (804, .inl K))), (d 2, .inl (cI, (804, .inl V))), (d 3, .inl (cI, (4, .inl sz))), (d 4, .inl (cI, (3, .inl cb))), (d 5, .inl (cI, (3, .inl ck))), (d 6, .inl (cI, (3, .inl ca))), (d 7, .inl (cZ, (3, .inl it))), (d 8, .inl (cI, (6000, .inl ou)))] := hap.D9
  have hS : va_S (Ao d 9) s.heap s.heap [] := va_S.rf
  have elen : (S.1 b ++ [(x, y)]).length = (S.1 b).length + 1 := by simp
  have hMB2 := hMB.push hb4 hl2 x y _ rfl
  refine lv_aload_n hx hb dX5_comes_0 rfl (lv_at hl 0 rfl) ?_
  refine gf_X5_7 hx hb hG hown hK hP 0 rfl rfl dX5_comes_1 ?_
  refine lv_sipush (v := nI 201) hx hb dX5_comes_4 (by decide) ?_
  refine lv_iload_n hx hb dX5_comes_7 rfl (lv_at hl 1 rfl) ?_
  refine x_imul (v := nI (201 * b)) hx hb dX5_comes_8 (pk_mul _ _) ?_
  refine lv_aload_n hx hb dX5_comes_9 rfl (lv_at hl 0 rfl) ?_
  refine gf_X5_16 hx hb hG hown hK hP 0 rfl rfl dX5_comes_10 ?_
  refine lv_iload_n hx hb dX5_comes_13 rfl (lv_at hl 1 rfl) ?_
  refine x_iald hx hb hK hP 3 0 rfl rfl (by omega) (by decide) dX5_comes_14 ?_
  rw [(hMB (b) (by omega)).1]
  refine x_iadd (v := nI ((201 * b) + ((S.1 b).length))) hx hb dX5_comes_15 (nI_add _ _) ?_
  refine lv_iload_n hx hb dX5_comes_16 rfl (lv_at hl 2 rfl) ?_
  refine x_iast hx hb hK hP hD hS 1 0 rfl rfl (by omega) (by decide) dX5_comes_17 (fun H locs hP hD hS => ?_)
  have hP : va_P D vwCl [(d 0, .inr (5, [.ref (d 1), .ref (d 2), .ref (d 3), .int (nI (S.2.1)), .int (th), .ref (d 4), .ref (d 5), .ref (d 6), .ref (d 7), .ref (d 8), .int (nI (S.2.2.2.length))])), (d 1, .inl (cI, (804, .inl (upd K ((201 * b) + ((S.1 b).length)) (x))))), (d 2, .inl (cI, (804, .inl V))), (d 3, .inl (cI, (4, .inl sz))), (d 4, .inl (cI, (3, .inl cb))), (d 5, .inl (cI, (3, .inl ck))), (d 6, .inl (cI, (3, .inl ca))), (d 7, .inl (cZ, (3, .inl it))), (d 8, .inl (cI, (6000, .inl ou)))] H := hP
  have hD : va_D (Ao d 9) [(d 0, .inr (5, [.ref (d 1), .ref (d 2), .ref (d 3), .int (nI (S.2.1)), .int (th), .ref (d 4), .ref (d 5), .ref (d 6), .ref (d 7), .ref (d 8), .int (nI (S.2.2.2.length))])), (d 1, .inl (cI, (804, .inl (upd K ((201 * b) + ((S.1 b).length)) (x))))), (d 2, .inl (cI, (804, .inl V))), (d 3, .inl (cI, (4, .inl sz))), (d 4, .inl (cI, (3, .inl cb))), (d 5, .inl (cI, (3, .inl ck))), (d 6, .inl (cI, (3, .inl ca))), (d 7, .inl (cZ, (3, .inl it))), (d 8, .inl (cI, (6000, .inl ou)))] := hD
  refine lv_aload_n hx hb dX5_comes_18 rfl (lv_at hl 0 rfl) ?_
  refine gf_X5_13 hx hb hG hown hK hP 0 rfl rfl dX5_comes_19 ?_
  refine lv_sipush (v := nI 201) hx hb dX5_comes_22 (by decide) ?_
  refine lv_iload_n hx hb dX5_comes_25 rfl (lv_at hl 1 rfl) ?_
  refine x_imul (v := nI (201 * b)) hx hb dX5_comes_26 (pk_mul _ _) ?_
  refine lv_aload_n hx hb dX5_comes_27 rfl (lv_at hl 0 rfl) ?_
  refine gf_X5_16 hx hb hG hown hK hP 0 rfl rfl dX5_comes_28 ?_
  refine lv_iload_n hx hb dX5_comes_31 rfl (lv_at hl 1 rfl) ?_
  refine x_iald hx hb hK hP 3 0 rfl rfl (by omega) (by decide) dX5_comes_32 ?_
  rw [(hMB (b) (by omega)).1]
  refine x_iadd (v := nI ((201 * b) + ((S.1 b).length))) hx hb dX5_comes_33 (nI_add _ _) ?_
  refine lv_iload_n hx hb dX5_comes_34 rfl (lv_at hl 3 rfl) ?_
  refine x_iast hx hb hK hP hD hS 2 0 rfl rfl (by omega) (by decide) dX5_comes_35 (fun H locs hP hD hS => ?_)
  have hP : va_P D vwCl [(d 0, .inr (5, [.ref (d 1), .ref (d 2), .ref (d 3), .int (nI (S.2.1)), .int (th), .ref (d 4), .ref (d 5), .ref (d 6), .ref (d 7), .ref (d 8), .int (nI (S.2.2.2.length))])), (d 1, .inl (cI, (804, .inl (upd K ((201 * b) + ((S.1 b).length)) (x))))), (d 2, .inl (cI, (804, .inl (upd V ((201 * b) + ((S.1 b).length)) (y))))), (d 3, .inl (cI, (4, .inl sz))), (d 4, .inl (cI, (3, .inl cb))), (d 5, .inl (cI, (3, .inl ck))), (d 6, .inl (cI, (3, .inl ca))), (d 7, .inl (cZ, (3, .inl it))), (d 8, .inl (cI, (6000, .inl ou)))] H := hP
  have hD : va_D (Ao d 9) [(d 0, .inr (5, [.ref (d 1), .ref (d 2), .ref (d 3), .int (nI (S.2.1)), .int (th), .ref (d 4), .ref (d 5), .ref (d 6), .ref (d 7), .ref (d 8), .int (nI (S.2.2.2.length))])), (d 1, .inl (cI, (804, .inl (upd K ((201 * b) + ((S.1 b).length)) (x))))), (d 2, .inl (cI, (804, .inl (upd V ((201 * b) + ((S.1 b).length)) (y))))), (d 3, .inl (cI, (4, .inl sz))), (d 4, .inl (cI, (3, .inl cb))), (d 5, .inl (cI, (3, .inl ck))), (d 6, .inl (cI, (3, .inl ca))), (d 7, .inl (cZ, (3, .inl it))), (d 8, .inl (cI, (6000, .inl ou)))] := hD
  refine lv_aload_n hx hb dX5_comes_36 rfl (lv_at hl 0 rfl) ?_
  refine gf_X5_16 hx hb hG hown hK hP 0 rfl rfl dX5_comes_37 ?_
  refine lv_iload_n hx hb dX5_comes_40 rfl (lv_at hl 1 rfl) ?_
  refine lv_dup2_11 hx hb dX5_comes_41 rfl rfl ?_
  refine x_iald hx hb hK hP 3 0 rfl rfl (by omega) (by decide) dX5_comes_42 ?_
  rw [(hMB (b) (by omega)).1]
  refine lv_iconst (v := nI 1) hx hb dX5_comes_43 (by decide) ?_
  refine x_iadd (v := nI (((S.1 b).length) + 1)) hx hb dX5_comes_44 (nI_add _ _) ?_
  refine x_iast hx hb hK hP hD hS 3 0 rfl rfl (by omega) (by decide) dX5_comes_45 (fun H locs hP hD hS => ?_)
  have hP : va_P D vwCl [(d 0, .inr (5, [.ref (d 1), .ref (d 2), .ref (d 3), .int (nI (S.2.1)), .int (th), .ref (d 4), .ref (d 5), .ref (d 6), .ref (d 7), .ref (d 8), .int (nI (S.2.2.2.length))])), (d 1, .inl (cI, (804, .inl (upd K ((201 * b) + ((S.1 b).length)) (x))))), (d 2, .inl (cI, (804, .inl (upd V ((201 * b) + ((S.1 b).length)) (y))))), (d 3, .inl (cI, (4, .inl (upd sz (b) (nI (((S.1 b).length) + 1)))))), (d 4, .inl (cI, (3, .inl cb))), (d 5, .inl (cI, (3, .inl ck))), (d 6, .inl (cI, (3, .inl ca))), (d 7, .inl (cZ, (3, .inl it))), (d 8, .inl (cI, (6000, .inl ou)))] H := hP
  have hD : va_D (Ao d 9) [(d 0, .inr (5, [.ref (d 1), .ref (d 2), .ref (d 3), .int (nI (S.2.1)), .int (th), .ref (d 4), .ref (d 5), .ref (d 6), .ref (d 7), .ref (d 8), .int (nI (S.2.2.2.length))])), (d 1, .inl (cI, (804, .inl (upd K ((201 * b) + ((S.1 b).length)) (x))))), (d 2, .inl (cI, (804, .inl (upd V ((201 * b) + ((S.1 b).length)) (y))))), (d 3, .inl (cI, (4, .inl (upd sz (b) (nI (((S.1 b).length) + 1)))))), (d 4, .inl (cI, (3, .inl cb))), (d 5, .inl (cI, (3, .inl ck))), (d 6, .inl (cI, (3, .inl ca))), (d 7, .inl (cZ, (3, .inl it))), (d 8, .inl (cI, (6000, .inl ou)))] := hD
  refine lv_iload_n hx hb dX5_comes_46 rfl (lv_at hl 1 rfl) ?_
  refine lv_iconst (v := nI 2) hx hb dX5_comes_47 (by decide) ?_
  refine x_cmp_ne (tgt := 70) hx hb dX5_comes_48 (by decide) (by omega) (by omega) (fun zc1 => False.elim (by first | omega | contradiction | exact absurd zc1 (m1_ne _ (by omega)) | exact absurd zc1 (by decide) | exact absurd (Eq.symm zc1) (m1_ne _ (by omega)) | (simp_all; done))) (fun zc1 => ?_)
  refine lv_aload_n hx hb dX5_comes_51 rfl (lv_at hl 0 rfl) ?_
  refine gf_X5_16 hx hb hG hown hK hP 0 rfl rfl dX5_comes_52 ?_
  refine lv_iload_n hx hb dX5_comes_55 rfl (lv_at hl 1 rfl) ?_
  refine x_iald hx hb hK hP 3 0 rfl rfl (by omega) (by decide) dX5_comes_56 ?_
  rw [show ((upd sz (b) (nI (((S.1 b).length) + 1)))) b = nI ((S.1 b).length + 1) from by rw [upd_at, if_pos rfl]]
  refine lv_aload_n hx hb dX5_comes_57 rfl (lv_at hl 0 rfl) ?_
  refine gf_X5_19 hx hb hG hown hK hP 0 rfl rfl dX5_comes_58 ?_
  refine x_cmp_le (tgt := 70) hx hb dX5_comes_61 (by decide) (by omega) (by omega) (fun zc2 => False.elim (by first | omega | contradiction | exact absurd zc2 (m1_ne _ (by omega)) | exact absurd zc2 (by decide) | exact absurd (Eq.symm zc2) (m1_ne _ (by omega)) | (simp_all; done))) (fun zc2 => ?_)
  refine lv_aload_n hx hb dX5_comes_64 rfl (lv_at hl 0 rfl) ?_
  refine lv_iload_n hx hb dX5_comes_65 rfl (lv_at hl 1 rfl) ?_
  refine lv_iconst (v := nI 0) hx hb dX5_comes_66 (by decide) ?_
  have hB0 : MdAt D cI cZ d (upB S b (S.1 b ++ [(x, y)])) th H := ⟨_, _, _, cb, ck, ca, it, ou, hP, hMB2, hMC, hMO⟩
  refine k2_V hx hb hml hown hG cs_X5_46 (c5_takes l D cI cZ d (upB S b (S.1 b ++ [(x, y)])) th b 0 (by omega) (by rw [upB_at]; omega) hap) (by decide) (pzV hK rfl hB0.rc hB0) rfl hl.1 rfl (Nat.le_of_ble_eq_true rfl) dX5_comes_67 ⟨Nat.zero_le _, Nat.zero_le _⟩ rfl hS (fun q h => h) (fun H locs hB0 hz hk hS => ?_)
  exact w_v (PB := fun H => MdAt D cI cZ d (upB S b ((S.1 b ++ [(x, y)]).eraseIdx 0)) th H) (by rw [upB_at, upB_up] at hB0; exact hB0) hS hx hb hr hlocks dX5_comes_70
theorem c5_comes (l : Launch) (D : va_G) (cI cZ : ClassId) (d : Nat → Nat) (S : St) (th : Int32) (b : Nat) (x y : Int32) (hb4 : b < 4) (hl2 : (S.1 b).length ≤ 200) (hbd2 : S.2.1 ≤ 200) (hap : Ap d 9) : Met l yX5_comes (ws_ yX5_comes cX5_comes 4 none) (rmN 1) (va_Pc [.ref (d 0), .int (nI b), .int x, .int y] (pz D [(cI, .int), (cZ, .boolean)] (fun H => MdAt D cI cZ d S th H))) (Wq none (fun H => MdAt D cI cZ d (upB S b (ent (lgO b) S.2.1 (S.1 b) x y)) th H) (Ao d 9)) 0 0 (Ao d 9) := by
  unfold ent
  by_cases hb2 : b = 2
  · rw [show lgO b = true from decide_eq_true hb2]
    by_cases hq : S.2.1 < (S.1 b).length + 1
    · rw [if_pos ⟨rfl, hq⟩]; exact c5_comes_bt l D cI cZ d S th b x y hb4 hl2 hap hb2 hq hbd2
    · rw [if_neg (fun z => hq z.2)]; exact c5_comes_bs l D cI cZ d S th b x y hb4 hl2 hap hb2 (by omega) hbd2
  · rw [show lgO b = false from decide_eq_false hb2, if_neg (fun z => by cases z.1)]
    exact c5_comes_pl l D cI cZ d S th b x y hb4 hl2 hap hb2
set_option maxHeartbeats 4000000 in
set_option maxRecDepth 100000 in
theorem c5_puts_no (l : Launch) (D : va_G) (cI cZ : ClassId) (d : Nat → Nat) (S : St) (th : Int32) (b : Nat) (x y : Int32) (hb4 : b < 4) (hap : Ap d 9) (hf : fx (S.1 b) x = none) (hl2 : (S.1 b).length ≤ 200) (hbd2 : S.2.1 ≤ 200) : Met l yX5_puts (ws_ yX5_puts cX5_puts 5 none) (rmN 2) (va_Pc [.ref (d 0), .int (nI (b)), .int (x), .int (y)] (pz D [(cI, .int), (cZ, .boolean)] (fun H => MdAt D cI cZ d S th H))) (Wq none (fun H => MdAt D cI cZ d (upB S b (stq (lgO b) S.2.1 (S.1 b) x y)) th H) (Ao d 9)) 0 0 (Ao d 9) := by
  refine m_start (by decide) (Nat.le_of_ble_eq_true rfl) ?_
  intro p e s m below meth c hx hb hr hG hown hlocks hml hB ls hl
  have hl : lv_has ls 5 [(0, .ref (d 0)), (1, .int (nI (b))), (2, .int (x)), (3, .int (y))] := hl
  obtain ⟨hB0, hK⟩ := hB
  obtain ⟨K, V, sz, cb, ck, ca, it, ou, hP, hMB, hMC, hMO⟩ := id hB0
  have hD : va_D (Ao d 9) [(d 0, .inr (5, [.ref (d 1), .ref (d 2), .ref (d 3), .int (nI (S.2.1)), .int (th), .ref (d 4), .ref (d 5), .ref (d 6), .ref (d 7), .ref (d 8), .int (nI (S.2.2.2.length))])), (d 1, .inl (cI, (804, .inl K))), (d 2, .inl (cI, (804, .inl V))), (d 3, .inl (cI, (4, .inl sz))), (d 4, .inl (cI, (3, .inl cb))), (d 5, .inl (cI, (3, .inl ck))), (d 6, .inl (cI, (3, .inl ca))), (d 7, .inl (cZ, (3, .inl it))), (d 8, .inl (cI, (6000, .inl ou)))] := hap.D9
  have hS : va_S (Ao d 9) s.heap s.heap [] := va_S.rf
  have hlen := hMB.at hb4
  refine lv_aload_n hx hb dX5_puts_0 rfl (lv_at hl 0 rfl) ?_
  refine lv_iload_n hx hb dX5_puts_1 rfl (lv_at hl 1 rfl) ?_
  refine lv_iload_n hx hb dX5_puts_2 rfl (lv_at hl 2 rfl) ?_
  refine k1_V hx hb hml hown hG cs_X5_50 (by have h := c5_place l D cI cZ d S th b (x) (by omega); rw [hf] at h; exact h) (by decide) (pzV hK rfl hB0.rc hB0) rfl hl.1 rfl (Nat.le_of_ble_eq_true rfl) dX5_puts_3 ⟨Nat.zero_le _, Nat.zero_le _⟩ rfl ?_
  refine lv_istore (lv' := [(4, .int ((-1))), (0, .ref (d 0)), (1, .int (nI (b))), (2, .int (x)), (3, .int (y))]) hx hb dX5_puts_6 hl (by decide) rfl (fun ls hl => ?_)
  refine lv_iload hx hb dX5_puts_8 (lv_at hl 0 rfl) ?_
  refine lv_iconst (v := (-1)) hx hb dX5_puts_10 (by decide) ?_
  refine lv_icmp_ne (tgt := 24) hx hb dX5_puts_11 (by decide) (fun zc1 => False.elim (by first | exact absurd zc1 (by decide) | omega | (simp_all; done))) (fun zc1 => ?_)
  refine lv_aload_n hx hb dX5_puts_14 rfl (lv_at hl 1 rfl) ?_
  refine lv_iload_n hx hb dX5_puts_15 rfl (lv_at hl 2 rfl) ?_
  refine lv_iload_n hx hb dX5_puts_16 rfl (lv_at hl 3 rfl) ?_
  refine lv_iload_n hx hb dX5_puts_17 rfl (lv_at hl 4 rfl) ?_
  refine k2_V hx hb hml hown hG cs_X5_54 (c5_comes l D cI cZ d S th b (x) (y) (by omega) (hl2) (hbd2) hap) (by decide) (pzV hK rfl hB0.rc hB0) rfl hl.1 rfl (Nat.le_of_ble_eq_true rfl) dX5_puts_18 ⟨Nat.zero_le _, Nat.zero_le _⟩ rfl hS (fun q h => h) (fun H locs hB0 hz hk hS => ?_)
  refine lv_goto (tgt := 38) hx hb dX5_puts_21 (by decide) ?_
  exact w_v (PB := fun H => MdAt D cI cZ d (upB S b (stq (lgO b) S.2.1 (S.1 b) x y)) th H) (by rw [stq_no hf]; exact hB0) hS hx hb hr hlocks dX5_puts_38
set_option maxHeartbeats 4000000 in
set_option maxRecDepth 100000 in
theorem c5_puts_at (l : Launch) (D : va_G) (cI cZ : ClassId) (d : Nat → Nat) (S : St) (th : Int32) (b : Nat) (x y : Int32) (hb4 : b < 4) (hap : Ap d 9) (i : Nat) (hf : fx (S.1 b) x = some i) : Met l yX5_puts (ws_ yX5_puts cX5_puts 5 none) (rmN 2) (va_Pc [.ref (d 0), .int (nI (b)), .int (x), .int (y)] (pz D [(cI, .int), (cZ, .boolean)] (fun H => MdAt D cI cZ d S th H))) (Wq none (fun H => MdAt D cI cZ d (upB S b (stq (lgO b) S.2.1 (S.1 b) x y)) th H) (Ao d 9)) 0 0 (Ao d 9) := by
  refine m_start (by decide) (Nat.le_of_ble_eq_true rfl) ?_
  intro p e s m below meth c hx hb hr hG hown hlocks hml hB ls hl
  have hl : lv_has ls 5 [(0, .ref (d 0)), (1, .int (nI (b))), (2, .int (x)), (3, .int (y))] := hl
  obtain ⟨hB0, hK⟩ := hB
  obtain ⟨K, V, sz, cb, ck, ca, it, ou, hP, hMB, hMC, hMO⟩ := id hB0
  have hD : va_D (Ao d 9) [(d 0, .inr (5, [.ref (d 1), .ref (d 2), .ref (d 3), .int (nI (S.2.1)), .int (th), .ref (d 4), .ref (d 5), .ref (d 6), .ref (d 7), .ref (d 8), .int (nI (S.2.2.2.length))])), (d 1, .inl (cI, (804, .inl K))), (d 2, .inl (cI, (804, .inl V))), (d 3, .inl (cI, (4, .inl sz))), (d 4, .inl (cI, (3, .inl cb))), (d 5, .inl (cI, (3, .inl ck))), (d 6, .inl (cI, (3, .inl ca))), (d 7, .inl (cZ, (3, .inl it))), (d 8, .inl (cI, (6000, .inl ou)))] := hap.D9
  have hS : va_S (Ao d 9) s.heap s.heap [] := va_S.rf
  have hlen := hMB.at hb4
  have hi := (fx_some hf).1
  refine lv_aload_n hx hb dX5_puts_0 rfl (lv_at hl 0 rfl) ?_
  refine lv_iload_n hx hb dX5_puts_1 rfl (lv_at hl 1 rfl) ?_
  refine lv_iload_n hx hb dX5_puts_2 rfl (lv_at hl 2 rfl) ?_
  refine k1_V hx hb hml hown hG cs_X5_50 (by have h := c5_place l D cI cZ d S th b (x) (by omega); rw [hf] at h; exact h) (by decide) (pzV hK rfl hB0.rc hB0) rfl hl.1 rfl (Nat.le_of_ble_eq_true rfl) dX5_puts_3 ⟨Nat.zero_le _, Nat.zero_le _⟩ rfl ?_
  refine lv_istore (lv' := [(4, .int (nI (i))), (0, .ref (d 0)), (1, .int (nI (b))), (2, .int (x)), (3, .int (y))]) hx hb dX5_puts_6 hl (by decide) rfl (fun ls hl => ?_)
  refine lv_iload hx hb dX5_puts_8 (lv_at hl 0 rfl) ?_
  refine lv_iconst (v := (-1)) hx hb dX5_puts_10 (by decide) ?_
  refine lv_icmp_ne (tgt := 24) hx hb dX5_puts_11 (by decide) (fun zc1 => ?_) (fun zc1 => False.elim (by first | omega | contradiction | exact absurd zc1 (m1_ne _ (by omega)) | exact absurd zc1 (by decide) | exact absurd (Eq.symm zc1) (m1_ne _ (by omega)) | (simp_all; done)))
  refine lv_aload_n hx hb dX5_puts_24 rfl (lv_at hl 1 rfl) ?_
  refine gf_X5_13 hx hb hG hown hK hP 0 rfl rfl dX5_puts_25 ?_
  refine lv_sipush (v := nI 201) hx hb dX5_puts_28 (by decide) ?_
  refine lv_iload_n hx hb dX5_puts_31 rfl (lv_at hl 2 rfl) ?_
  refine x_imul (v := nI (201 * b)) hx hb dX5_puts_32 (pk_mul _ _) ?_
  refine lv_iload hx hb dX5_puts_33 (lv_at hl 0 rfl) ?_
  refine x_iadd (v := nI ((201 * b) + i)) hx hb dX5_puts_35 (nI_add _ _) ?_
  refine lv_iload_n hx hb dX5_puts_36 rfl (lv_at hl 4 rfl) ?_
  refine x_iast hx hb hK hP hD hS 2 0 rfl rfl (by omega) (by decide) dX5_puts_37 (fun H locs hP hD hS => ?_)
  have hP : va_P D vwCl [(d 0, .inr (5, [.ref (d 1), .ref (d 2), .ref (d 3), .int (nI (S.2.1)), .int (th), .ref (d 4), .ref (d 5), .ref (d 6), .ref (d 7), .ref (d 8), .int (nI (S.2.2.2.length))])), (d 1, .inl (cI, (804, .inl K))), (d 2, .inl (cI, (804, .inl (upd V ((201 * b) + i) (y))))), (d 3, .inl (cI, (4, .inl sz))), (d 4, .inl (cI, (3, .inl cb))), (d 5, .inl (cI, (3, .inl ck))), (d 6, .inl (cI, (3, .inl ca))), (d 7, .inl (cZ, (3, .inl it))), (d 8, .inl (cI, (6000, .inl ou)))] H := hP
  have hD : va_D (Ao d 9) [(d 0, .inr (5, [.ref (d 1), .ref (d 2), .ref (d 3), .int (nI (S.2.1)), .int (th), .ref (d 4), .ref (d 5), .ref (d 6), .ref (d 7), .ref (d 8), .int (nI (S.2.2.2.length))])), (d 1, .inl (cI, (804, .inl K))), (d 2, .inl (cI, (804, .inl (upd V ((201 * b) + i) (y))))), (d 3, .inl (cI, (4, .inl sz))), (d 4, .inl (cI, (3, .inl cb))), (d 5, .inl (cI, (3, .inl ck))), (d 6, .inl (cI, (3, .inl ca))), (d 7, .inl (cZ, (3, .inl it))), (d 8, .inl (cI, (6000, .inl ou)))] := hD
  exact w_v (PB := fun H => MdAt D cI cZ d (upB S b (stq (lgO b) S.2.1 (S.1 b) x y)) th H) (by rw [stq_at hf]; exact ⟨K, _, sz, cb, ck, ca, it, ou, hP, hMB.val hb4 hi y, hMC, hMO⟩) hS hx hb hr hlocks dX5_puts_38
theorem MdQ_w {x : Cu} {w k n t : Int32} (h : MdQ x w k n t) (b k' n' : Nat) (t' : Bool) (e : x = some (b, k', n', t')) : w = nI b ∧ k = nI k' ∧ n = nI n' ∧ t = bI t' := by subst e; exact h
theorem MdQ_n {x : Cu} {w k n t : Int32} (h : MdQ x w k n t) (e : x = none) : w = -1 := by subst e; exact h
set_option maxHeartbeats 4000000 in
set_option maxRecDepth 100000 in
theorem c5_isOpen_t (l : Launch) (D : va_G) (cI cZ : ClassId) (d : Nat → Nat) (S : St) (th : Int32) (cu b k n : Nat) (t : Bool) (hc3 : cu < 3) (hC : S.2.2.1 cu = some (b, k, n, t)) (hb4 : b < 4) : Met l yX5_isOpen (ws_ yX5_isOpen cX5_isOpen 2 (some .boolean)) (rmN 0) (va_Pc [.ref (d 0), .int (nI (cu))] (pz D [(cI, .int), (cZ, .boolean)] (fun H => MdAt D cI cZ d S th H))) (Pq (some (.int (bI true)))) 0 0 (fun _ => False) := by
  refine m_start (by decide) (Nat.le_of_ble_eq_true rfl) ?_
  intro p e s m below meth c hx hb hr hG hown hlocks hml hB ls hl
  have hl : lv_has ls 2 [(0, .ref (d 0)), (1, .int (nI (cu)))] := hl
  obtain ⟨hB0, hK⟩ := hB
  obtain ⟨K, V, sz, cb, ck, ca, it, ou, hP, hMB, hMC, hMO⟩ := id hB0
  obtain ⟨hcb, hck, hca, hit⟩ := MdQ_w (hMC cu (by omega)) b k n t hC
  refine lv_aload_n hx hb dX5_isOpen_0 rfl (lv_at hl 0 rfl) ?_
  refine gf_X5_23 hx hb hG hown hK hP 0 rfl rfl dX5_isOpen_1 ?_
  refine lv_iload_n hx hb dX5_isOpen_4 rfl (lv_at hl 1 rfl) ?_
  refine x_iald hx hb hK hP 4 0 rfl rfl (by omega) (by decide) dX5_isOpen_5 ?_
  rw [hcb]
  refine lv_iconst (v := (-1)) hx hb dX5_isOpen_6 (by decide) ?_
  refine lv_icmp_eq (tgt := 14) hx hb dX5_isOpen_7 (by decide) (fun zc1 => False.elim (by first | omega | contradiction | exact absurd zc1 (m1_ne _ (by omega)) | exact absurd zc1 (by decide) | exact absurd (Eq.symm zc1) (m1_ne _ (by omega)) | (simp_all; done))) (fun zc1 => ?_)
  refine lv_iconst (v := nI 1) hx hb dX5_isOpen_10 (by decide) ?_
  refine lv_goto (tgt := 15) hx hb dX5_isOpen_11 (by decide) ?_
  exact e_z (by rfl) hx hb hr hlocks dX5_isOpen_15
set_option maxHeartbeats 4000000 in
set_option maxRecDepth 100000 in
theorem c5_isOpen_f (l : Launch) (D : va_G) (cI cZ : ClassId) (d : Nat → Nat) (S : St) (th : Int32) (cu : Nat) (hc3 : cu < 3) (hC : S.2.2.1 cu = none) : Met l yX5_isOpen (ws_ yX5_isOpen cX5_isOpen 2 (some .boolean)) (rmN 0) (va_Pc [.ref (d 0), .int (nI (cu))] (pz D [(cI, .int), (cZ, .boolean)] (fun H => MdAt D cI cZ d S th H))) (Pq (some (.int (bI false)))) 0 0 (fun _ => False) := by
  refine m_start (by decide) (Nat.le_of_ble_eq_true rfl) ?_
  intro p e s m below meth c hx hb hr hG hown hlocks hml hB ls hl
  have hl : lv_has ls 2 [(0, .ref (d 0)), (1, .int (nI (cu)))] := hl
  obtain ⟨hB0, hK⟩ := hB
  obtain ⟨K, V, sz, cb, ck, ca, it, ou, hP, hMB, hMC, hMO⟩ := id hB0
  have hcb := MdQ_n (hMC cu (by omega)) hC
  refine lv_aload_n hx hb dX5_isOpen_0 rfl (lv_at hl 0 rfl) ?_
  refine gf_X5_23 hx hb hG hown hK hP 0 rfl rfl dX5_isOpen_1 ?_
  refine lv_iload_n hx hb dX5_isOpen_4 rfl (lv_at hl 1 rfl) ?_
  refine x_iald hx hb hK hP 4 0 rfl rfl (by omega) (by decide) dX5_isOpen_5 ?_
  rw [hcb]
  refine lv_iconst (v := (-1)) hx hb dX5_isOpen_6 (by decide) ?_
  refine lv_icmp_eq (tgt := 14) hx hb dX5_isOpen_7 (by decide) (fun zc1 => ?_) (fun zc1 => False.elim (by first | exact absurd zc1 (by decide) | omega | (simp_all; done)))
  refine lv_iconst (v := nI 0) hx hb dX5_isOpen_14 (by decide) ?_
  exact e_z (by rfl) hx hb hr hlocks dX5_isOpen_15
set_option maxHeartbeats 4000000 in
set_option maxRecDepth 100000 in
theorem c5_canChange_f (l : Launch) (D : va_G) (cI cZ : ClassId) (d : Nat → Nat) (S : St) (th : Int32) (cu : Nat) (hc3 : cu < 3) (hC : S.2.2.1 cu = none) : Met l yX5_canChange (ws_ yX5_canChange cX5_canChange 2 (some .boolean)) (rmN 1) (va_Pc [.ref (d 0), .int (nI (cu))] (pz D [(cI, .int), (cZ, .boolean)] (fun H => MdAt D cI cZ d S th H))) (Pq (some (.int (bI false)))) 0 0 (fun _ => False) := by
  refine m_start (by decide) (Nat.le_of_ble_eq_true rfl) ?_
  intro p e s m below meth c hx hb hr hG hown hlocks hml hB ls hl
  have hl : lv_has ls 2 [(0, .ref (d 0)), (1, .int (nI (cu)))] := hl
  obtain ⟨hB0, hK⟩ := hB
  obtain ⟨K, V, sz, cb, ck, ca, it, ou, hP, hMB, hMC, hMO⟩ := id hB0
  refine lv_aload_n hx hb dX5_canChange_0 rfl (lv_at hl 0 rfl) ?_
  refine lv_iload_n hx hb dX5_canChange_1 rfl (lv_at hl 1 rfl) ?_
  refine k1_V hx hb hml hown hG cs_X5_95 (c5_isOpen_f l D cI cZ d S th cu (by omega) hC) (by decide) (pzV hK rfl hB0.rc hB0) rfl hl.1 rfl (Nat.le_of_ble_eq_true rfl) dX5_canChange_2 ⟨Nat.zero_le _, Nat.zero_le _⟩ rfl ?_
  refine x_ifb_eq (tgt := 31) hx hb dX5_canChange_5 (by decide) (fun zc1 => ?_) (fun zc1 => False.elim (by first | exact absurd zc1 (by decide) | omega | (simp_all; done)))
  refine lv_iconst (v := nI 0) hx hb dX5_canChange_31 (by decide) ?_
  exact e_z (by rfl) hx hb hr hlocks dX5_canChange_32
set_option maxHeartbeats 4000000 in
set_option maxRecDepth 100000 in
theorem c5_canChange_q (l : Launch) (D : va_G) (cI cZ : ClassId) (d : Nat → Nat) (S : St) (th : Int32) (cu b k n : Nat) (t : Bool) (hc3 : cu < 3) (hC : S.2.2.1 cu = some (b, k, n, t)) (hb4 : b < 4) (hb3 : b = 3) : Met l yX5_canChange (ws_ yX5_canChange cX5_canChange 2 (some .boolean)) (rmN 1) (va_Pc [.ref (d 0), .int (nI (cu))] (pz D [(cI, .int), (cZ, .boolean)] (fun H => MdAt D cI cZ d S th H))) (Pq (some (.int (bI false)))) 0 0 (fun _ => False) := by
  refine m_start (by decide) (Nat.le_of_ble_eq_true rfl) ?_
  intro p e s m below meth c hx hb hr hG hown hlocks hml hB ls hl
  have hl : lv_has ls 2 [(0, .ref (d 0)), (1, .int (nI (cu)))] := hl
  obtain ⟨hB0, hK⟩ := hB
  obtain ⟨K, V, sz, cb, ck, ca, it, ou, hP, hMB, hMC, hMO⟩ := id hB0
  obtain ⟨hcb, hck, hca, hit⟩ := MdQ_w (hMC cu (by omega)) b k n t hC
  refine lv_aload_n hx hb dX5_canChange_0 rfl (lv_at hl 0 rfl) ?_
  refine lv_iload_n hx hb dX5_canChange_1 rfl (lv_at hl 1 rfl) ?_
  refine k1_V hx hb hml hown hG cs_X5_95 (c5_isOpen_t l D cI cZ d S th cu b k n t (by omega) hC (by omega)) (by decide) (pzV hK rfl hB0.rc hB0) rfl hl.1 rfl (Nat.le_of_ble_eq_true rfl) dX5_canChange_2 ⟨Nat.zero_le _, Nat.zero_le _⟩ rfl ?_
  refine x_ifb_eq (tgt := 31) hx hb dX5_canChange_5 (by decide) (fun zc1 => False.elim (by first | exact absurd zc1 (by decide) | omega | (simp_all; done))) (fun zc1 => ?_)
  refine lv_aload_n hx hb dX5_canChange_8 rfl (lv_at hl 0 rfl) ?_
  refine gf_X5_23 hx hb hG hown hK hP 0 rfl rfl dX5_canChange_9 ?_
  refine lv_iload_n hx hb dX5_canChange_12 rfl (lv_at hl 1 rfl) ?_
  refine x_iald hx hb hK hP 4 0 rfl rfl (by omega) (by decide) dX5_canChange_13 ?_
  rw [hcb]
  refine lv_iconst (v := nI 3) hx hb dX5_canChange_14 (by decide) ?_
  refine x_cmp_eq (tgt := 31) hx hb dX5_canChange_15 (by decide) (by omega) (by omega) (fun zc2 => ?_) (fun zc2 => False.elim (by first | omega | contradiction | exact absurd zc2 (m1_ne _ (by omega)) | exact absurd zc2 (by decide) | exact absurd (Eq.symm zc2) (m1_ne _ (by omega)) | (simp_all; done)))
  refine lv_iconst (v := nI 0) hx hb dX5_canChange_31 (by decide) ?_
  exact e_z (by rfl) hx hb hr hlocks dX5_canChange_32
set_option maxHeartbeats 4000000 in
set_option maxRecDepth 100000 in
theorem c5_canChange_n (l : Launch) (D : va_G) (cI cZ : ClassId) (d : Nat → Nat) (S : St) (th : Int32) (cu b k n : Nat) (t : Bool) (hc3 : cu < 3) (hC : S.2.2.1 cu = some (b, k, n, t)) (hb4 : b < 4) (hb3 : b ≠ 3) (ht : t = false) : Met l yX5_canChange (ws_ yX5_canChange cX5_canChange 2 (some .boolean)) (rmN 1) (va_Pc [.ref (d 0), .int (nI (cu))] (pz D [(cI, .int), (cZ, .boolean)] (fun H => MdAt D cI cZ d S th H))) (Pq (some (.int (bI false)))) 0 0 (fun _ => False) := by
  refine m_start (by decide) (Nat.le_of_ble_eq_true rfl) ?_
  intro p e s m below meth c hx hb hr hG hown hlocks hml hB ls hl
  have hl : lv_has ls 2 [(0, .ref (d 0)), (1, .int (nI (cu)))] := hl
  obtain ⟨hB0, hK⟩ := hB
  obtain ⟨K, V, sz, cb, ck, ca, it, ou, hP, hMB, hMC, hMO⟩ := id hB0
  obtain ⟨hcb, hck, hca, hit⟩ := MdQ_w (hMC cu (by omega)) b k n t hC
  refine lv_aload_n hx hb dX5_canChange_0 rfl (lv_at hl 0 rfl) ?_
  refine lv_iload_n hx hb dX5_canChange_1 rfl (lv_at hl 1 rfl) ?_
  refine k1_V hx hb hml hown hG cs_X5_95 (c5_isOpen_t l D cI cZ d S th cu b k n t (by omega) hC (by omega)) (by decide) (pzV hK rfl hB0.rc hB0) rfl hl.1 rfl (Nat.le_of_ble_eq_true rfl) dX5_canChange_2 ⟨Nat.zero_le _, Nat.zero_le _⟩ rfl ?_
  refine x_ifb_eq (tgt := 31) hx hb dX5_canChange_5 (by decide) (fun zc1 => False.elim (by first | exact absurd zc1 (by decide) | omega | (simp_all; done))) (fun zc1 => ?_)
  refine lv_aload_n hx hb dX5_canChange_8 rfl (lv_at hl 0 rfl) ?_
  refine gf_X5_23 hx hb hG hown hK hP 0 rfl rfl dX5_canChange_9 ?_
  refine lv_iload_n hx hb dX5_canChange_12 rfl (lv_at hl 1 rfl) ?_
  refine x_iald hx hb hK hP 4 0 rfl rfl (by omega) (by decide) dX5_canChange_13 ?_
  rw [hcb]
  refine lv_iconst (v := nI 3) hx hb dX5_canChange_14 (by decide) ?_
  refine x_cmp_eq (tgt := 31) hx hb dX5_canChange_15 (by decide) (by omega) (by omega) (fun zc2 => False.elim (by first | omega | contradiction | exact absurd zc2 (m1_ne _ (by omega)) | exact absurd zc2 (by decide) | exact absurd (Eq.symm zc2) (m1_ne _ (by omega)) | (simp_all; done))) (fun zc2 => ?_)
  refine lv_aload_n hx hb dX5_canChange_18 rfl (lv_at hl 0 rfl) ?_
  refine gf_X5_32 hx hb hG hown hK hP 0 rfl rfl dX5_canChange_19 ?_
  refine lv_iload_n hx hb dX5_canChange_22 rfl (lv_at hl 1 rfl) ?_
  refine x_zald hx hb hK hP 7 1 rfl rfl (by omega) (by decide) dX5_canChange_23 ?_
  rw [hit]
  refine x_ifb_eq (tgt := 31) hx hb dX5_canChange_24 (by decide) (fun zc3 => ?_) (fun zc3 => False.elim (by first | omega | contradiction | exact absurd zc3 (m1_ne _ (by omega)) | exact absurd zc3 (by decide) | exact absurd (Eq.symm zc3) (m1_ne _ (by omega)) | (simp_all; done)))
  refine lv_iconst (v := nI 0) hx hb dX5_canChange_31 (by decide) ?_
  exact e_z (by rfl) hx hb hr hlocks dX5_canChange_32
set_option maxHeartbeats 4000000 in
set_option maxRecDepth 100000 in
theorem c5_canChange_y (l : Launch) (D : va_G) (cI cZ : ClassId) (d : Nat → Nat) (S : St) (th : Int32) (cu b k n : Nat) (t : Bool) (hc3 : cu < 3) (hC : S.2.2.1 cu = some (b, k, n, t)) (hb4 : b < 4) (hb3 : b ≠ 3) (ht : t = true) : Met l yX5_canChange (ws_ yX5_canChange cX5_canChange 2 (some .boolean)) (rmN 1) (va_Pc [.ref (d 0), .int (nI (cu))] (pz D [(cI, .int), (cZ, .boolean)] (fun H => MdAt D cI cZ d S th H))) (Pq (some (.int (bI true)))) 0 0 (fun _ => False) := by
  refine m_start (by decide) (Nat.le_of_ble_eq_true rfl) ?_
  intro p e s m below meth c hx hb hr hG hown hlocks hml hB ls hl
  have hl : lv_has ls 2 [(0, .ref (d 0)), (1, .int (nI (cu)))] := hl
  obtain ⟨hB0, hK⟩ := hB
  obtain ⟨K, V, sz, cb, ck, ca, it, ou, hP, hMB, hMC, hMO⟩ := id hB0
  obtain ⟨hcb, hck, hca, hit⟩ := MdQ_w (hMC cu (by omega)) b k n t hC
  refine lv_aload_n hx hb dX5_canChange_0 rfl (lv_at hl 0 rfl) ?_
  refine lv_iload_n hx hb dX5_canChange_1 rfl (lv_at hl 1 rfl) ?_
  refine k1_V hx hb hml hown hG cs_X5_95 (c5_isOpen_t l D cI cZ d S th cu b k n t (by omega) hC (by omega)) (by decide) (pzV hK rfl hB0.rc hB0) rfl hl.1 rfl (Nat.le_of_ble_eq_true rfl) dX5_canChange_2 ⟨Nat.zero_le _, Nat.zero_le _⟩ rfl ?_
  refine x_ifb_eq (tgt := 31) hx hb dX5_canChange_5 (by decide) (fun zc1 => False.elim (by first | exact absurd zc1 (by decide) | omega | (simp_all; done))) (fun zc1 => ?_)
  refine lv_aload_n hx hb dX5_canChange_8 rfl (lv_at hl 0 rfl) ?_
  refine gf_X5_23 hx hb hG hown hK hP 0 rfl rfl dX5_canChange_9 ?_
  refine lv_iload_n hx hb dX5_canChange_12 rfl (lv_at hl 1 rfl) ?_
  refine x_iald hx hb hK hP 4 0 rfl rfl (by omega) (by decide) dX5_canChange_13 ?_
  rw [hcb]
  refine lv_iconst (v := nI 3) hx hb dX5_canChange_14 (by decide) ?_
  refine x_cmp_eq (tgt := 31) hx hb dX5_canChange_15 (by decide) (by omega) (by omega) (fun zc2 => False.elim (by first | omega | contradiction | exact absurd zc2 (m1_ne _ (by omega)) | exact absurd zc2 (by decide) | exact absurd (Eq.symm zc2) (m1_ne _ (by omega)) | (simp_all; done))) (fun zc2 => ?_)
  refine lv_aload_n hx hb dX5_canChange_18 rfl (lv_at hl 0 rfl) ?_
  refine gf_X5_32 hx hb hG hown hK hP 0 rfl rfl dX5_canChange_19 ?_
  refine lv_iload_n hx hb dX5_canChange_22 rfl (lv_at hl 1 rfl) ?_
  refine x_zald hx hb hK hP 7 1 rfl rfl (by omega) (by decide) dX5_canChange_23 ?_
  rw [hit]
  refine x_ifb_eq (tgt := 31) hx hb dX5_canChange_24 (by decide) (fun zc3 => False.elim (by first | omega | contradiction | exact absurd zc3 (m1_ne _ (by omega)) | exact absurd zc3 (by decide) | exact absurd (Eq.symm zc3) (m1_ne _ (by omega)) | (simp_all; done))) (fun zc3 => ?_)
  refine lv_iconst (v := nI 1) hx hb dX5_canChange_27 (by decide) ?_
  refine lv_goto (tgt := 32) hx hb dX5_canChange_28 (by decide) ?_
  exact e_z (by rfl) hx hb hr hlocks dX5_canChange_32
set_option maxHeartbeats 4000000 in
set_option maxRecDepth 100000 in
theorem c5_isPlace_no (l : Launch) (D : va_G) (cI cZ : ClassId) (d : Nat → Nat) (S : St) (th : Int32) (x y : Int32) (hno : rch 4 x = false) : Met l yX5_isPlace (ws_ yX5_isPlace cX5_isPlace 3 (some .boolean)) (rmN 2) (va_Pc [.ref (d 0), .int (x), .int (y)] (pz D [(cI, .int), (cZ, .boolean)] (fun H => MdAt D cI cZ d S th H))) (Pq (some (.int (bI false)))) 0 0 (fun _ => False) := by
  refine m_start (by decide) (Nat.le_of_ble_eq_true rfl) ?_
  intro p e s m below meth c hx hb hr hG hown hlocks hml hB ls hl
  have hl : lv_has ls 3 [(0, .ref (d 0)), (1, .int (x)), (2, .int (y))] := hl
  obtain ⟨hB0, hK⟩ := hB
  refine lv_iload_n hx hb dX5_isPlace_0 rfl (lv_at hl 1 rfl) ?_
  refine k1_S hx hb hml hown hG cs_X5_68 (by have h := c5_isBook l D (x); rw [hno] at h; exact h) (by decide) (pzS (hK.sub (tys' := []) [] rfl) trivial) rfl hl.1 rfl (Nat.le_of_ble_eq_true rfl) dX5_isPlace_1 ⟨Nat.zero_le _, Nat.zero_le _⟩ rfl ?_
  refine x_ifb_eq (tgt := 27) hx hb dX5_isPlace_4 (by decide) (fun zc1 => ?_) (fun zc1 => False.elim (by first | exact absurd zc1 (by decide) | omega | (simp_all; done)))
  refine lv_iconst (v := nI 0) hx hb dX5_isPlace_27 (by decide) ?_
  exact e_z (by rfl) hx hb hr hlocks dX5_isPlace_28
set_option maxHeartbeats 4000000 in
set_option maxRecDepth 100000 in
theorem c5_isPlace_t (l : Launch) (D : va_G) (cI cZ : ClassId) (d : Nat → Nat) (S : St) (th : Int32) (b : Nat) (y : Int32) (hb4 : b < 4) (hy : rch (S.1 b).length y = true) : Met l yX5_isPlace (ws_ yX5_isPlace cX5_isPlace 3 (some .boolean)) (rmN 2) (va_Pc [.ref (d 0), .int (nI (b)), .int (y)] (pz D [(cI, .int), (cZ, .boolean)] (fun H => MdAt D cI cZ d S th H))) (Pq (some (.int (bI true)))) 0 0 (fun _ => False) := by
  refine m_start (by decide) (Nat.le_of_ble_eq_true rfl) ?_
  intro p e s m below meth c hx hb hr hG hown hlocks hml hB ls hl
  have hl : lv_has ls 3 [(0, .ref (d 0)), (1, .int (nI (b))), (2, .int (y))] := hl
  obtain ⟨hB0, hK⟩ := hB
  obtain ⟨K, V, sz, cb, ck, ca, it, ou, hP, hMB, hMC, hMO⟩ := id hB0
  have hlen := hMB.at hb4
  refine lv_iload_n hx hb dX5_isPlace_0 rfl (lv_at hl 1 rfl) ?_
  refine k1_S hx hb hml hown hG cs_X5_68 (by have h := c5_isBook l D (nI (b)); rw [rch_in (by omega) (by decide)] at h; exact h) (by decide) (pzS (hK.sub (tys' := []) [] rfl) trivial) rfl hl.1 rfl (Nat.le_of_ble_eq_true rfl) dX5_isPlace_1 ⟨Nat.zero_le _, Nat.zero_le _⟩ rfl ?_
  refine x_ifb_eq (tgt := 27) hx hb dX5_isPlace_4 (by decide) (fun zc1 => False.elim (by first | exact absurd zc1 (by decide) | omega | (simp_all; done))) (fun zc1 => ?_)
  refine lv_iload_n hx hb dX5_isPlace_7 rfl (lv_at hl 2 rfl) ?_
  refine lv_iconst (v := nI 0) hx hb dX5_isPlace_8 (by decide) ?_
  refine lv_aload_n hx hb dX5_isPlace_9 rfl (lv_at hl 0 rfl) ?_
  refine gf_X5_16 hx hb hG hown hK hP 0 rfl rfl dX5_isPlace_10 ?_
  refine lv_iload_n hx hb dX5_isPlace_13 rfl (lv_at hl 1 rfl) ?_
  refine x_iald hx hb hK hP 3 0 rfl rfl (by omega) (by decide) dX5_isPlace_14 ?_
  rw [(hMB (b) (by omega)).1]
  refine lv_iconst (v := nI 1) hx hb dX5_isPlace_15 (by decide) ?_
  refine x_isub (v := (nI ((S.1 b).length)) - (nI (1))) hx hb dX5_isPlace_16 rfl ?_
  refine k1_S hx hb hml hown hG cs_X5_42 (by have h := c5_in l D (y) 0 ((nI ((S.1 b).length)) - (nI (1))); rw [inb_rch (n := (S.1 b).length) (by omega) _ _ (by rw [pk_sub_toInt (by omega) (by omega)]; rfl), hy] at h; exact h) (by decide) (pzS (hK.sub (tys' := []) [] rfl) trivial) rfl hl.1 rfl (Nat.le_of_ble_eq_true rfl) dX5_isPlace_17 ⟨Nat.zero_le _, Nat.zero_le _⟩ rfl ?_
  refine x_ifb_eq (tgt := 27) hx hb dX5_isPlace_20 (by decide) (fun zc2 => False.elim (by first | exact absurd zc2 (by decide) | omega | (simp_all; done))) (fun zc2 => ?_)
  refine lv_iconst (v := nI 1) hx hb dX5_isPlace_23 (by decide) ?_
  refine lv_goto (tgt := 28) hx hb dX5_isPlace_24 (by decide) ?_
  exact e_z (by rfl) hx hb hr hlocks dX5_isPlace_28
set_option maxHeartbeats 4000000 in
set_option maxRecDepth 100000 in
theorem c5_isPlace_f (l : Launch) (D : va_G) (cI cZ : ClassId) (d : Nat → Nat) (S : St) (th : Int32) (b : Nat) (y : Int32) (hb4 : b < 4) (hy : rch (S.1 b).length y = false) : Met l yX5_isPlace (ws_ yX5_isPlace cX5_isPlace 3 (some .boolean)) (rmN 2) (va_Pc [.ref (d 0), .int (nI (b)), .int (y)] (pz D [(cI, .int), (cZ, .boolean)] (fun H => MdAt D cI cZ d S th H))) (Pq (some (.int (bI false)))) 0 0 (fun _ => False) := by
  refine m_start (by decide) (Nat.le_of_ble_eq_true rfl) ?_
  intro p e s m below meth c hx hb hr hG hown hlocks hml hB ls hl
  have hl : lv_has ls 3 [(0, .ref (d 0)), (1, .int (nI (b))), (2, .int (y))] := hl
  obtain ⟨hB0, hK⟩ := hB
  obtain ⟨K, V, sz, cb, ck, ca, it, ou, hP, hMB, hMC, hMO⟩ := id hB0
  have hlen := hMB.at hb4
  refine lv_iload_n hx hb dX5_isPlace_0 rfl (lv_at hl 1 rfl) ?_
  refine k1_S hx hb hml hown hG cs_X5_68 (by have h := c5_isBook l D (nI (b)); rw [rch_in (by omega) (by decide)] at h; exact h) (by decide) (pzS (hK.sub (tys' := []) [] rfl) trivial) rfl hl.1 rfl (Nat.le_of_ble_eq_true rfl) dX5_isPlace_1 ⟨Nat.zero_le _, Nat.zero_le _⟩ rfl ?_
  refine x_ifb_eq (tgt := 27) hx hb dX5_isPlace_4 (by decide) (fun zc1 => False.elim (by first | exact absurd zc1 (by decide) | omega | (simp_all; done))) (fun zc1 => ?_)
  refine lv_iload_n hx hb dX5_isPlace_7 rfl (lv_at hl 2 rfl) ?_
  refine lv_iconst (v := nI 0) hx hb dX5_isPlace_8 (by decide) ?_
  refine lv_aload_n hx hb dX5_isPlace_9 rfl (lv_at hl 0 rfl) ?_
  refine gf_X5_16 hx hb hG hown hK hP 0 rfl rfl dX5_isPlace_10 ?_
  refine lv_iload_n hx hb dX5_isPlace_13 rfl (lv_at hl 1 rfl) ?_
  refine x_iald hx hb hK hP 3 0 rfl rfl (by omega) (by decide) dX5_isPlace_14 ?_
  rw [(hMB (b) (by omega)).1]
  refine lv_iconst (v := nI 1) hx hb dX5_isPlace_15 (by decide) ?_
  refine x_isub (v := (nI ((S.1 b).length)) - (nI (1))) hx hb dX5_isPlace_16 rfl ?_
  refine k1_S hx hb hml hown hG cs_X5_42 (by have h := c5_in l D (y) 0 ((nI ((S.1 b).length)) - (nI (1))); rw [inb_rch (n := (S.1 b).length) (by omega) _ _ (by rw [pk_sub_toInt (by omega) (by omega)]; rfl), hy] at h; exact h) (by decide) (pzS (hK.sub (tys' := []) [] rfl) trivial) rfl hl.1 rfl (Nat.le_of_ble_eq_true rfl) dX5_isPlace_17 ⟨Nat.zero_le _, Nat.zero_le _⟩ rfl ?_
  refine x_ifb_eq (tgt := 27) hx hb dX5_isPlace_20 (by decide) (fun zc2 => ?_) (fun zc2 => False.elim (by first | exact absurd zc2 (by decide) | omega | (simp_all; done)))
  refine lv_iconst (v := nI 0) hx hb dX5_isPlace_27 (by decide) ?_
  exact e_z (by rfl) hx hb hr hlocks dX5_isPlace_28
set_option maxHeartbeats 4000000 in
set_option maxRecDepth 100000 in
theorem c5_hasPair_no (l : Launch) (D : va_G) (cI cZ : ClassId) (d : Nat → Nat) (S : St) (th : Int32) (b : Nat) (x y : Int32) (hb4 : b < 4) (hf : fx (S.1 b) x = none) : Met l yX5_hasPair (ws_ yX5_hasPair cX5_hasPair 5 (some .boolean)) (rmN 1) (va_Pc [.ref (d 0), .int (nI (b)), .int (x), .int (y)] (pz D [(cI, .int), (cZ, .boolean)] (fun H => MdAt D cI cZ d S th H))) (Pq (some (.int (bI false)))) 0 0 (fun _ => False) := by
  refine m_start (by decide) (Nat.le_of_ble_eq_true rfl) ?_
  intro p e s m below meth c hx hb hr hG hown hlocks hml hB ls hl
  have hl : lv_has ls 5 [(0, .ref (d 0)), (1, .int (nI (b))), (2, .int (x)), (3, .int (y))] := hl
  obtain ⟨hB0, hK⟩ := hB
  obtain ⟨K, V, sz, cb, ck, ca, it, ou, hP, hMB, hMC, hMO⟩ := id hB0
  have hlen := hMB.at hb4
  refine lv_aload_n hx hb dX5_hasPair_0 rfl (lv_at hl 0 rfl) ?_
  refine lv_iload_n hx hb dX5_hasPair_1 rfl (lv_at hl 1 rfl) ?_
  refine lv_iload_n hx hb dX5_hasPair_2 rfl (lv_at hl 2 rfl) ?_
  refine k1_V hx hb hml hown hG cs_X5_50 (by have h := c5_place l D cI cZ d S th b (x) (by omega); rw [hf] at h; exact h) (by decide) (pzV hK rfl hB0.rc hB0) rfl hl.1 rfl (Nat.le_of_ble_eq_true rfl) dX5_hasPair_3 ⟨Nat.zero_le _, Nat.zero_le _⟩ rfl ?_
  refine lv_istore (lv' := [(4, .int ((-1))), (0, .ref (d 0)), (1, .int (nI (b))), (2, .int (x)), (3, .int (y))]) hx hb dX5_hasPair_6 hl (by decide) rfl (fun ls hl => ?_)
  refine lv_iload hx hb dX5_hasPair_8 (lv_at hl 0 rfl) ?_
  refine lv_iconst (v := (-1)) hx hb dX5_hasPair_10 (by decide) ?_
  refine lv_icmp_eq (tgt := 35) hx hb dX5_hasPair_11 (by decide) (fun zc1 => ?_) (fun zc1 => False.elim (by first | exact absurd zc1 (by decide) | omega | (simp_all; done)))
  refine lv_iconst (v := nI 0) hx hb dX5_hasPair_35 (by decide) ?_
  exact e_z (by rfl) hx hb hr hlocks dX5_hasPair_36
set_option maxHeartbeats 4000000 in
set_option maxRecDepth 100000 in
theorem c5_hasPair_at (l : Launch) (D : va_G) (cI cZ : ClassId) (d : Nat → Nat) (S : St) (th : Int32) (b : Nat) (x y : Int32) (i : Nat) (hb4 : b < 4) (hf : fx (S.1 b) x = some i) : Met l yX5_hasPair (ws_ yX5_hasPair cX5_hasPair 5 (some .boolean)) (rmN 1) (va_Pc [.ref (d 0), .int (nI (b)), .int (x), .int (y)] (pz D [(cI, .int), (cZ, .boolean)] (fun H => MdAt D cI cZ d S th H))) (Pq (some (.int (bI (decide (vf (S.1 b) i = y)))))) 0 0 (fun _ => False) := by
  refine m_start (by decide) (Nat.le_of_ble_eq_true rfl) ?_
  intro p e s m below meth c hx hb hr hG hown hlocks hml hB ls hl
  have hl : lv_has ls 5 [(0, .ref (d 0)), (1, .int (nI (b))), (2, .int (x)), (3, .int (y))] := hl
  obtain ⟨hB0, hK⟩ := hB
  obtain ⟨K, V, sz, cb, ck, ca, it, ou, hP, hMB, hMC, hMO⟩ := id hB0
  have hlen := hMB.at hb4
  have hi := (fx_some hf).1
  refine lv_aload_n hx hb dX5_hasPair_0 rfl (lv_at hl 0 rfl) ?_
  refine lv_iload_n hx hb dX5_hasPair_1 rfl (lv_at hl 1 rfl) ?_
  refine lv_iload_n hx hb dX5_hasPair_2 rfl (lv_at hl 2 rfl) ?_
  refine k1_V hx hb hml hown hG cs_X5_50 (by have h := c5_place l D cI cZ d S th b (x) (by omega); rw [hf] at h; exact h) (by decide) (pzV hK rfl hB0.rc hB0) rfl hl.1 rfl (Nat.le_of_ble_eq_true rfl) dX5_hasPair_3 ⟨Nat.zero_le _, Nat.zero_le _⟩ rfl ?_
  refine lv_istore (lv' := [(4, .int (nI (i))), (0, .ref (d 0)), (1, .int (nI (b))), (2, .int (x)), (3, .int (y))]) hx hb dX5_hasPair_6 hl (by decide) rfl (fun ls hl => ?_)
  refine lv_iload hx hb dX5_hasPair_8 (lv_at hl 0 rfl) ?_
  refine lv_iconst (v := (-1)) hx hb dX5_hasPair_10 (by decide) ?_
  refine lv_icmp_eq (tgt := 35) hx hb dX5_hasPair_11 (by decide) (fun zc1 => False.elim (by first | omega | contradiction | exact absurd zc1 (m1_ne _ (by omega)) | exact absurd zc1 (by decide) | exact absurd (Eq.symm zc1) (m1_ne _ (by omega)) | (simp_all; done))) (fun zc1 => ?_)
  refine lv_aload_n hx hb dX5_hasPair_14 rfl (lv_at hl 1 rfl) ?_
  refine gf_X5_13 hx hb hG hown hK hP 0 rfl rfl dX5_hasPair_15 ?_
  refine lv_sipush (v := nI 201) hx hb dX5_hasPair_18 (by decide) ?_
  refine lv_iload_n hx hb dX5_hasPair_21 rfl (lv_at hl 2 rfl) ?_
  refine x_imul (v := nI (201 * b)) hx hb dX5_hasPair_22 (pk_mul _ _) ?_
  refine lv_iload hx hb dX5_hasPair_23 (lv_at hl 0 rfl) ?_
  refine x_iadd (v := nI ((201 * b) + i)) hx hb dX5_hasPair_25 (nI_add _ _) ?_
  refine x_iald hx hb hK hP 2 0 rfl rfl (by omega) (by decide) dX5_hasPair_26 ?_
  rw [show V ((201 * b) + i) = vf (S.1 b) i from ((hMB b (by omega)).2.2 i (by omega)).2]
  refine lv_iload_n hx hb dX5_hasPair_27 rfl (lv_at hl 4 rfl) ?_
  refine lv_icmp_ne (tgt := 35) hx hb dX5_hasPair_28 (by decide) (fun c1 => ?_) (fun c1 => ?_)
  · refine lv_iconst (v := nI 0) hx hb dX5_hasPair_35 (by decide) ?_
    exact e_z (by rw [decide_eq_false c1]; rfl) hx hb hr hlocks dX5_hasPair_36
  · refine lv_iconst (v := nI 1) hx hb dX5_hasPair_31 (by decide) ?_
    refine lv_goto (tgt := 36) hx hb dX5_hasPair_32 (by decide) ?_
    exact e_z (by rw [decide_eq_true (by first | exact c1 | exact Decidable.of_not_not c1)]; rfl) hx hb hr hlocks dX5_hasPair_36
theorem MdO.push {O : List Int32} {ou : Nat → Int32} (h : MdO O ou) (hl : O.length < 6000) (x : Int32) : MdO (O ++ [x]) (upd ou O.length x) := ⟨by simp; omega, out_push h.2 x⟩
def apO (S : St) (X : List Int32) : St := (S.1, S.2.1, S.2.2.1, S.2.2.2 ++ X)
theorem apO_ap (S : St) (X Y : List Int32) : apO (apO S X) Y = apO S (X ++ Y) := by unfold apO; rw [List.append_assoc]
theorem apO_len (S : St) (X : List Int32) : (apO S X).2.2.2.length = S.2.2.2.length + X.length := by show (S.2.2.2 ++ X).length = _; simp
set_option maxHeartbeats 4000000 in
set_option maxRecDepth 100000 in
theorem c5_writes (l : Launch) (D : va_G) (cI cZ : ClassId) (d : Nat → Nat) (S : St) (th : Int32) (x : Int32) (hl2 : S.2.2.2.length < 6000) (hap : Ap d 9) : Met l yX5_writes (ws_ yX5_writes cX5_writes 2 none) (rmN 0) (va_Pc [.ref (d 0), .int (x)] (pz D [(cI, .int), (cZ, .boolean)] (fun H => MdAt D cI cZ d S th H))) (Wq none (fun H => MdAt D cI cZ d (apO S [x]) th H) (Ao d 9)) 0 0 (Ao d 9) := by
  refine m_start (by decide) (Nat.le_of_ble_eq_true rfl) ?_
  intro p e s m below meth c hx hb hr hG hown hlocks hml hB ls hl
  have hl : lv_has ls 2 [(0, .ref (d 0)), (1, .int (x))] := hl
  obtain ⟨hB0, hK⟩ := hB
  obtain ⟨K, V, sz, cb, ck, ca, it, ou, hP, hMB, hMC, hMO⟩ := id hB0
  have hD : va_D (Ao d 9) [(d 0, .inr (5, [.ref (d 1), .ref (d 2), .ref (d 3), .int (nI (S.2.1)), .int (th), .ref (d 4), .ref (d 5), .ref (d 6), .ref (d 7), .ref (d 8), .int (nI (S.2.2.2.length))])), (d 1, .inl (cI, (804, .inl K))), (d 2, .inl (cI, (804, .inl V))), (d 3, .inl (cI, (4, .inl sz))), (d 4, .inl (cI, (3, .inl cb))), (d 5, .inl (cI, (3, .inl ck))), (d 6, .inl (cI, (3, .inl ca))), (d 7, .inl (cZ, (3, .inl it))), (d 8, .inl (cI, (6000, .inl ou)))] := hap.D9
  have hS : va_S (Ao d 9) s.heap s.heap [] := va_S.rf
  refine lv_aload_n hx hb dX5_writes_0 rfl (lv_at hl 0 rfl) ?_
  refine gf_X5_36 hx hb hG hown hK hP 0 rfl rfl dX5_writes_1 ?_
  refine lv_aload_n hx hb dX5_writes_4 rfl (lv_at hl 0 rfl) ?_
  refine gf_X5_109 hx hb hG hown hK hP 0 rfl rfl dX5_writes_5 ?_
  refine lv_iload_n hx hb dX5_writes_8 rfl (lv_at hl 1 rfl) ?_
  refine x_iast hx hb hK hP hD hS 8 0 rfl rfl (by omega) (by decide) dX5_writes_9 (fun H locs hP hD hS => ?_)
  have hP : va_P D vwCl [(d 0, .inr (5, [.ref (d 1), .ref (d 2), .ref (d 3), .int (nI (S.2.1)), .int (th), .ref (d 4), .ref (d 5), .ref (d 6), .ref (d 7), .ref (d 8), .int (nI (S.2.2.2.length))])), (d 1, .inl (cI, (804, .inl K))), (d 2, .inl (cI, (804, .inl V))), (d 3, .inl (cI, (4, .inl sz))), (d 4, .inl (cI, (3, .inl cb))), (d 5, .inl (cI, (3, .inl ck))), (d 6, .inl (cI, (3, .inl ca))), (d 7, .inl (cZ, (3, .inl it))), (d 8, .inl (cI, (6000, .inl (upd ou (S.2.2.2.length) (x)))))] H := hP
  have hD : va_D (Ao d 9) [(d 0, .inr (5, [.ref (d 1), .ref (d 2), .ref (d 3), .int (nI (S.2.1)), .int (th), .ref (d 4), .ref (d 5), .ref (d 6), .ref (d 7), .ref (d 8), .int (nI (S.2.2.2.length))])), (d 1, .inl (cI, (804, .inl K))), (d 2, .inl (cI, (804, .inl V))), (d 3, .inl (cI, (4, .inl sz))), (d 4, .inl (cI, (3, .inl cb))), (d 5, .inl (cI, (3, .inl ck))), (d 6, .inl (cI, (3, .inl ca))), (d 7, .inl (cZ, (3, .inl it))), (d 8, .inl (cI, (6000, .inl (upd ou (S.2.2.2.length) (x)))))] := hD
  refine lv_aload_n hx hb dX5_writes_10 rfl (lv_at hl 0 rfl) ?_
  refine lv_dup hx hb dX5_writes_11 rfl ?_
  refine gf_X5_109 hx hb hG hown hK hP 0 rfl rfl dX5_writes_12 ?_
  refine lv_iconst (v := nI 1) hx hb dX5_writes_15 (by decide) ?_
  refine x_iadd (v := nI (S.2.2.2.length + 1)) hx hb dX5_writes_16 (nI_add _ _) ?_
  refine pf_X5_109 hx hb hG hown hK hP hD hS 0 rfl (v := .int (nI (S.2.2.2.length + 1))) rfl rfl (Nat.le_of_ble_eq_true rfl) dX5_writes_17 (fun H locs hP hD hS => ?_)
  have hP : va_P D vwCl [(d 0, .inr (5, [.ref (d 1), .ref (d 2), .ref (d 3), .int (nI (S.2.1)), .int (th), .ref (d 4), .ref (d 5), .ref (d 6), .ref (d 7), .ref (d 8), .int (nI (S.2.2.2.length + 1))])), (d 1, .inl (cI, (804, .inl K))), (d 2, .inl (cI, (804, .inl V))), (d 3, .inl (cI, (4, .inl sz))), (d 4, .inl (cI, (3, .inl cb))), (d 5, .inl (cI, (3, .inl ck))), (d 6, .inl (cI, (3, .inl ca))), (d 7, .inl (cZ, (3, .inl it))), (d 8, .inl (cI, (6000, .inl (upd ou (S.2.2.2.length) (x)))))] H := hP
  have hD : va_D (Ao d 9) [(d 0, .inr (5, [.ref (d 1), .ref (d 2), .ref (d 3), .int (nI (S.2.1)), .int (th), .ref (d 4), .ref (d 5), .ref (d 6), .ref (d 7), .ref (d 8), .int (nI (S.2.2.2.length + 1))])), (d 1, .inl (cI, (804, .inl K))), (d 2, .inl (cI, (804, .inl V))), (d 3, .inl (cI, (4, .inl sz))), (d 4, .inl (cI, (3, .inl cb))), (d 5, .inl (cI, (3, .inl ck))), (d 6, .inl (cI, (3, .inl ca))), (d 7, .inl (cZ, (3, .inl it))), (d 8, .inl (cI, (6000, .inl (upd ou (S.2.2.2.length) (x)))))] := hD
  have e1 : (apO S [x]).2.2.2.length = S.2.2.2.length + 1 := by rw [apO_len]; rfl
  exact w_v (PB := fun H => MdAt D cI cZ d (apO S [x]) th H) ⟨K, V, sz, cb, ck, ca, it, _, by rw [e1]; exact hP, hMB, hMC, hMO.push hl2 x⟩ hS hx hb hr hlocks dX5_writes_20
