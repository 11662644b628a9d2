/-- a cursor: closed; or its book, its kind, the place of the next pair, whether it stands on a pair -/
abbrev Cu : Type := Option (Nat × Nat × Nat × Bool)
def CuRaw (D : va_G) (q : Nat) (w x y z : Int32) (H : Heap) : Prop := va_P D vwCl [(q, .inr (2, [.int w, .int x, .int y, .int z]))] H
def CurAt (D : va_G) (q : Nat) (cu : Cu) (H : Heap) : Prop := match cu with
  | none => ∃ x y z, CuRaw D q (-1) x y z H
  | some (b, k, n, t) => CuRaw D q (nI b) (nI k) (nI n) (bI t) H
theorem CuRaw.kept {D : va_G} {q : Nat} {w x y z : Int32} {H H1 : Heap} (h : CuRaw D q w x y z H) (hq : H1[q]? = H[q]?) : CuRaw D q w x y z H1 := va_P.kept h (fun k p hk => by
  match k, hk with
  | 0, hk => cases hk; exact hq
  | k + 1, hk => simp at hk)
theorem CurAt.kept {D : va_G} {q : Nat} {cu : Cu} {H H1 : Heap} (h : CurAt D q cu H) (hq : H1[q]? = H[q]?) : CurAt D q cu H1 := by
  match cu, h with
  | none, ⟨x, y, z, h⟩ => exact ⟨x, y, z, h.kept hq⟩
  | some (b, k, n, t), h => exact CuRaw.kept h hq
theorem CurAt.raw {D : va_G} {q : Nat} {cu : Cu} {H : Heap} (h : CurAt D q cu H) : ∃ w x y z, CuRaw D q w x y z H := by
  match cu, h with
  | none, ⟨x, y, z, h⟩ => exact ⟨-1, x, y, z, h⟩
  | some (b, k, n, t), h => exact ⟨_, _, _, _, h⟩
theorem CuRaw.D {q : Nat} {A : Nat → Prop} {e : va_E} (hA : A q) : va_D A [(q, e)] := by
  refine ⟨fun i j x y hi hj _ => ?_, fun k p hk => ?_⟩
  · have h1 : i < 1 := (List.getElem?_eq_some_iff.mp hi).1
    have h2 : j < 1 := (List.getElem?_eq_some_iff.mp hj).1
    omega
  · match k, hk with
    | 0, hk => cases hk; exact hA
    | k + 1, hk => simp at hk
theorem CuRaw.rc {D : va_G} {q : Nat} {w x y z : Int32} {H : Heap} (h : CuRaw D q w x y z H) : Rc D 2 q H := ⟨_, h⟩
theorem CurAt.rc {D : va_G} {q : Nat} {cu : Cu} {H : Heap} (h : CurAt D q cu H) : Rc D 2 q H := by
  obtain ⟨w, x, y, z, h⟩ := h.raw
  exact h.rc
theorem CurAt.lt {D : va_G} {q : Nat} {cu : Cu} {H : Heap} (h : CurAt D q cu H) : q < H.size := by
  obtain ⟨w, x, y, z, h⟩ := h.raw
  exact va_lt h (k := 0) rfl
/-- the output: its characters' codes -/
def OutAt (D : va_G) (cC : ClassId) (a : Nat → Nat) (O : List Int32) (H : Heap) : Prop := O.length ≤ 5000 ∧ ∃ f, va_P D vwCl [(a 0, .inr (3, [.ref (a 1), .int (nI O.length)])), (a 1, .inl (cC, (5000, .inl f)))] H ∧ ∀ j, j < O.length → f j = O[j]?.getD 0
theorem OutAt.kept {D : va_G} {cC : ClassId} {a : Nat → Nat} {O : List Int32} {H H1 : Heap} (h : OutAt D cC a O H) (hq : ∀ i, i < 2 → H1[a i]? = H[a i]?) : OutAt D cC a O H1 := by
  obtain ⟨h0, f, h1, h2⟩ := h
  refine ⟨h0, f, h1.kept (fun j q hj => ?_), h2⟩
  match j, hj with
  | 0, hj => cases hj; exact hq 0 (by decide)
  | 1, hj => cases hj; exact hq 1 (by decide)
  | j + 2, hj => simp at hj
theorem OutAt.obj {D : va_G} {cC : ClassId} {a : Nat → Nat} {O : List Int32} {H : Heap} (h : OutAt D cC a O H) : va_P D vwCl [(a 0, .inr (3, [.ref (a 1), .int (nI O.length)]))] H := by
  obtain ⟨h0, f, h1, h2⟩ := h
  exact h1.sub [0] rfl
theorem OutAt.rc {D : va_G} {cC : ClassId} {a : Nat → Nat} {O : List Int32} {H : Heap} (h : OutAt D cC a O H) : Rc D 3 (a 0) H := ⟨_, h.obj⟩
theorem OutAt.lt {D : va_G} {cC : ClassId} {a : Nat → Nat} {O : List Int32} {H : Heap} (h : OutAt D cC a O H) {i : Nat} (hi : i < 2) : a i < H.size := by
  obtain ⟨h0, f, h1, h2⟩ := h
  match i, hi with
  | 0, _ => exact va_lt h1 (k := 0) rfl
  | 1, _ => exact va_lt h1 (k := 1) rfl
theorem Ap.D2 {a : Nat → Nat} (h : Ap a 2) {e0 e1 : va_E} : va_D (Ao a 2) [(a 0, e0), (a 1, e1)] := by
  have key : ∀ (k : Nat) (q : Nat × va_E), ([(a 0, e0), (a 1, e1)] : va_W)[k]? = some q → k < 2 ∧ q.1 = a k := by
    intro k q hk
    match k, hk with
    | 0, hk => cases hk; exact ⟨by decide, rfl⟩
    | 1, hk => cases hk; exact ⟨by decide, rfl⟩
    | k + 2, hk => simp at hk
  refine ⟨fun i j x y hi hj hxy => ?_, fun k q hk => ?_⟩
  · obtain ⟨i1, i2⟩ := key i x hi
    obtain ⟨j1, j2⟩ := key j y hj
    exact h i j i1 j1 (by rw [← i2, ← j2]; exact hxy)
  · obtain ⟨k1, k2⟩ := key k q hk
    exact ⟨k, k1, k2⟩
theorem out_push {f : Nat → Int32} {O : List Int32} (h : ∀ j, j < O.length → f j = O[j]?.getD 0) (x : Int32) : ∀ j, j < (O ++ [x]).length → upd f O.length x j = (O ++ [x])[j]?.getD 0 := fun j hj => by
  have hj' : j < O.length + 1 := by simpa using hj
  rw [upd_at]
  by_cases e : j = O.length
  · subst e; simp
  · rw [if_neg e, h j (by omega), List.getElem?_append_left (by omega)]
/-- the digits of n, k places of them -/
def dgs : Nat → Nat → List Int32
  | 0, _ => []
  | k + 1, n => nI (48 + n / 10 ^ k % 10) :: dgs k n
/-- how many digits a number has -/
def ndg (n : Nat) : Nat := if n < 10 then 1 else if n < 100 then 2 else if n < 1000 then 3 else if n < 10000 then 4 else if n < 100000 then 5 else if n < 1000000 then 6 else if n < 10000000 then 7 else if n < 100000000 then 8 else if n < 1000000000 then 9 else 10
theorem dgs_len : ∀ (k n : Nat), (dgs k n).length = k
  | 0, _ => rfl
  | k + 1, n => by rw [dgs, List.length_cons, dgs_len k n]
theorem ndg_in (n : Nat) : 1 ≤ ndg n ∧ ndg n ≤ 10 := by
  unfold ndg
  repeat' split
  all_goals omega
/-- an int as it is written -/
def decI (x : Int32) : List Int32 := (if x < 0 then [nI 45] else []) ++ dgs (ndg x.toInt.natAbs) x.toInt.natAbs
theorem decI_len (x : Int32) : (decI x).length ≤ 11 := by
  unfold decI
  rw [List.length_append, dgs_len]
  have := ndg_in x.toInt.natAbs
  split <;> simp <;> omega
theorem fb_rng32 (x : Int32) : -2147483648 ≤ x.toInt ∧ x.toInt < 2147483648 := ⟨by have := Int32.le_toInt x; simpa using this, by have := Int32.toInt_lt x; simpa using this⟩
set_option maxHeartbeats 4000000 in
set_option maxRecDepth 100000 in
theorem c_openAt (l : Launch) (D : va_G) (q : Nat) (w x y z : Int32) (b k : Nat) : Met l yX2_openAt (ws_ yX2_openAt cX2_openAt 3 none) (rmN 0) (va_Pc [.ref (q), .int (nI (b)), .int (nI (k))] (pz D [] (fun H => CuRaw D q (w) (x) (y) (z) H))) (Wq none (fun H => CuRaw D q (nI b) (nI k) (nI 0) (bI false) H) (fun q2 => q2 = q)) 0 0 (fun q2 => q2 = q) := by
  refine m_start (by decide) (Nat.le_of_ble_eq_true rfl) ?_
  intro p e s m below meth c hx hb hr hG hown hlocks hml hB ls hl
  have hl : lv_has ls 3 [(0, .ref (q)), (1, .int (nI (b))), (2, .int (nI (k)))] := hl
  obtain ⟨hP, hK⟩ := hB
  have hD : va_D (fun q2 => q2 = q) [(q, .inr (2, [.int (w), .int (x), .int (y), .int (z)]))] := CuRaw.D rfl
  have hS : va_S (fun q2 => q2 = q) s.heap s.heap [] := va_S.rf
  refine lv_aload_n hx hb dX2_openAt_0 rfl (lv_at hl 0 rfl) ?_
  refine lv_iload_n hx hb dX2_openAt_1 rfl (lv_at hl 1 rfl) ?_
  refine pf_X2_9 hx hb hG hown hK hP hD hS 0 rfl (v := .int (nI (b))) rfl rfl (Nat.le_of_ble_eq_true rfl) dX2_openAt_2 (fun H locs hP hD hS => ?_)
  have hP : va_P D vwCl [(q, .inr (2, [.int (nI (b)), .int (x), .int (y), .int (z)]))] H := hP
  have hD : va_D (fun q2 => q2 = q) [(q, .inr (2, [.int (nI (b)), .int (x), .int (y), .int (z)]))] := hD
  refine lv_aload_n hx hb dX2_openAt_5 rfl (lv_at hl 0 rfl) ?_
  refine lv_iload_n hx hb dX2_openAt_6 rfl (lv_at hl 2 rfl) ?_
  refine pf_X2_15 hx hb hG hown hK hP hD hS 0 rfl (v := .int (nI (k))) rfl rfl (Nat.le_of_ble_eq_true rfl) dX2_openAt_7 (fun H locs hP hD hS => ?_)
  have hP : va_P D vwCl [(q, .inr (2, [.int (nI (b)), .int (nI (k)), .int (y), .int (z)]))] H := hP
  have hD : va_D (fun q2 => q2 = q) [(q, .inr (2, [.int (nI (b)), .int (nI (k)), .int (y), .int (z)]))] := hD
  refine lv_aload_n hx hb dX2_openAt_10 rfl (lv_at hl 0 rfl) ?_
  refine lv_iconst (v := nI 0) hx hb dX2_openAt_11 (by decide) ?_
  refine pf_X2_18 hx hb hG hown hK hP hD hS 0 rfl (v := .int (nI (0))) rfl rfl (Nat.le_of_ble_eq_true rfl) dX2_openAt_12 (fun H locs hP hD hS => ?_)
  have hP : va_P D vwCl [(q, .inr (2, [.int (nI (b)), .int (nI (k)), .int (nI (0)), .int (z)]))] H := hP
  have hD : va_D (fun q2 => q2 = q) [(q, .inr (2, [.int (nI (b)), .int (nI (k)), .int (nI (0)), .int (z)]))] := hD
  refine lv_aload_n hx hb dX2_openAt_15 rfl (lv_at hl 0 rfl) ?_
  refine lv_iconst (v := nI 0) hx hb dX2_openAt_16 (by decide) ?_
  refine pf_X2_21 hx hb hG hown hK hP hD hS 0 rfl (v := .int (nI (0))) rfl rfl (Nat.le_of_ble_eq_true rfl) dX2_openAt_17 (fun H locs hP hD hS => ?_)
  have hP : va_P D vwCl [(q, .inr (2, [.int (nI (b)), .int (nI (k)), .int (nI (0)), .int (nI (0))]))] H := hP
  have hD : va_D (fun q2 => q2 = q) [(q, .inr (2, [.int (nI (b)), .int (nI (k)), .int (nI (0)), .int (nI (0))]))] := hD
  exact w_v (PB := fun H => CuRaw D q (nI b) (nI k) (nI 0) (bI false) H) hP hS hx hb hr hlocks dX2_openAt_20
set_option maxHeartbeats 4000000 in
set_option maxRecDepth 100000 in
theorem c_close (l : Launch) (D : va_G) (q : Nat) (w x y z : Int32) : Met l yX2_close (ws_ yX2_close cX2_close 1 none) (rmN 0) (va_Pc [.ref (q)] (pz D [] (fun H => CuRaw D q (w) (x) (y) (z) H))) (Wq none (fun H => CuRaw D q (-1) x y (nI 0) H) (fun q2 => q2 = q)) 0 0 (fun q2 => q2 = q) := by
  refine m_start (by decide) (Nat.le_of_ble_eq_true rfl) ?_
  intro p e s m below meth c hx hb hr hG hown hlocks hml hB ls hl
  have hl : lv_has ls 1 [(0, .ref (q))] := hl
  obtain ⟨hP, hK⟩ := hB
  have hD : va_D (fun q2 => q2 = q) [(q, .inr (2, [.int (w), .int (x), .int (y), .int (z)]))] := CuRaw.D rfl
  have hS : va_S (fun q2 => q2 = q) s.heap s.heap [] := va_S.rf
  refine lv_aload_n hx hb dX2_close_0 rfl (lv_at hl 0 rfl) ?_
  refine lv_iconst (v := (-1)) hx hb dX2_close_1 (by decide) ?_
  refine pf_X2_9 hx hb hG hown hK hP hD hS 0 rfl (v := .int ((-1))) rfl rfl (Nat.le_of_ble_eq_true rfl) dX2_close_2 (fun H locs hP hD hS => ?_)
  have hP : va_P D vwCl [(q, .inr (2, [.int ((-1)), .int (x), .int (y), .int (z)]))] H := hP
  have hD : va_D (fun q2 => q2 = q) [(q, .inr (2, [.int ((-1)), .int (x), .int (y), .int (z)]))] := hD
  refine lv_aload_n hx hb dX2_close_5 rfl (lv_at hl 0 rfl) ?_
  refine lv_iconst (v := nI 0) hx hb dX2_close_6 (by decide) ?_
  refine pf_X2_21 hx hb hG hown hK hP hD hS 0 rfl (v := .int (nI (0))) rfl rfl (Nat.le_of_ble_eq_true rfl) dX2_close_7 (fun H locs hP hD hS => ?_)
  have hP : va_P D vwCl [(q, .inr (2, [.int ((-1)), .int (x), .int (y), .int (nI (0))]))] H := hP
  have hD : va_D (fun q2 => q2 = q) [(q, .inr (2, [.int ((-1)), .int (x), .int (y), .int (nI (0))]))] := hD
  exact w_v (PB := fun H => CuRaw D q (-1) x y (nI 0) H) hP hS hx hb hr hlocks dX2_close_10
set_option maxHeartbeats 4000000 in
set_option maxRecDepth 100000 in
theorem c_goOn (l : Launch) (D : va_G) (q b k n : Nat) (t : Bool) : Met l yX2_goOn (ws_ yX2_goOn cX2_goOn 1 none) (rmN 0) (va_Pc [.ref (q)] (pz D [] (fun H => CuRaw D q (nI (b)) (nI (k)) (nI (n)) (bI (t)) H))) (Wq none (fun H => CuRaw D q (nI b) (nI k) (nI (n + 1)) (bI true) H) (fun q2 => q2 = q)) 0 0 (fun q2 => q2 = q) := by
  refine m_start (by decide) (Nat.le_of_ble_eq_true rfl) ?_
  intro p e s m below meth c hx hb hr hG hown hlocks hml hB ls hl
  have hl : lv_has ls 1 [(0, .ref (q))] := hl
  obtain ⟨hP, hK⟩ := hB
  have hD : va_D (fun q2 => q2 = q) [(q, .inr (2, [.int (nI (b)), .int (nI (k)), .int (nI (n)), .int (bI (t))]))] := CuRaw.D rfl
  have hS : va_S (fun q2 => q2 = q) s.heap s.heap [] := va_S.rf
  refine lv_aload_n hx hb dX2_goOn_0 rfl (lv_at hl 0 rfl) ?_
  refine lv_dup hx hb dX2_goOn_1 rfl ?_
  refine gf_X2_18 hx hb hG hown hK hP 0 rfl rfl dX2_goOn_2 ?_
  refine lv_iconst (v := nI 1) hx hb dX2_goOn_5 (by decide) ?_
  refine x_iadd (v := nI (n + 1)) hx hb dX2_goOn_6 (nI_add _ _) ?_
  refine pf_X2_18 hx hb hG hown hK hP hD hS 0 rfl (v := .int (nI (n + 1))) rfl rfl (Nat.le_of_ble_eq_true rfl) dX2_goOn_7 (fun H locs hP hD hS => ?_)
  have hP : va_P D vwCl [(q, .inr (2, [.int (nI (b)), .int (nI (k)), .int (nI (n + 1)), .int (bI (t))]))] H := hP
  have hD : va_D (fun q2 => q2 = q) [(q, .inr (2, [.int (nI (b)), .int (nI (k)), .int (nI (n + 1)), .int (bI (t))]))] := hD
  refine lv_aload_n hx hb dX2_goOn_10 rfl (lv_at hl 0 rfl) ?_
  refine lv_iconst (v := nI 1) hx hb dX2_goOn_11 (by decide) ?_
  refine pf_X2_21 hx hb hG hown hK hP hD hS 0 rfl (v := .int (nI (1))) rfl rfl (Nat.le_of_ble_eq_true rfl) dX2_goOn_12 (fun H locs hP hD hS => ?_)
  have hP : va_P D vwCl [(q, .inr (2, [.int (nI (b)), .int (nI (k)), .int (nI (n + 1)), .int (nI (1))]))] H := hP
  have hD : va_D (fun q2 => q2 = q) [(q, .inr (2, [.int (nI (b)), .int (nI (k)), .int (nI (n + 1)), .int (nI (1))]))] := hD
  exact w_v (PB := fun H => CuRaw D q (nI b) (nI k) (nI (n + 1)) (bI true) H) hP hS hx hb hr hlocks dX2_goOn_15
set_option maxHeartbeats 4000000 in
set_option maxRecDepth 100000 in
theorem c_stepBack (l : Launch) (D : va_G) (q b k n : Nat) (t : Bool) (hn : 1 ≤ n) : Met l yX2_stepBack (ws_ yX2_stepBack cX2_stepBack 1 none) (rmN 0) (va_Pc [.ref (q)] (pz D [] (fun H => CuRaw D q (nI (b)) (nI (k)) (nI (n)) (bI (t)) H))) (Wq none (fun H => CuRaw D q (nI b) (nI k) (nI (n - 1)) (bI false) H) (fun q2 => q2 = q)) 0 0 (fun q2 => q2 = q) := by
  refine m_start (by decide) (Nat.le_of_ble_eq_true rfl) ?_
  intro p e s m below meth c hx hb hr hG hown hlocks hml hB ls hl
  have hl : lv_has ls 1 [(0, .ref (q))] := hl
  obtain ⟨hP, hK⟩ := hB
  have hD : va_D (fun q2 => q2 = q) [(q, .inr (2, [.int (nI (b)), .int (nI (k)), .int (nI (n)), .int (bI (t))]))] := CuRaw.D rfl
  have hS : va_S (fun q2 => q2 = q) s.heap s.heap [] := va_S.rf
  refine lv_aload_n hx hb dX2_stepBack_0 rfl (lv_at hl 0 rfl) ?_
  refine lv_dup hx hb dX2_stepBack_1 rfl ?_
  refine gf_X2_18 hx hb hG hown hK hP 0 rfl rfl dX2_stepBack_2 ?_
  refine lv_iconst (v := nI 1) hx hb dX2_stepBack_5 (by decide) ?_
  refine x_isub (v := nI (n - 1)) hx hb dX2_stepBack_6 (pk_sub (by omega)) ?_
  refine pf_X2_18 hx hb hG hown hK hP hD hS 0 rfl (v := .int (nI (n - 1))) rfl rfl (Nat.le_of_ble_eq_true rfl) dX2_stepBack_7 (fun H locs hP hD hS => ?_)
  have hP : va_P D vwCl [(q, .inr (2, [.int (nI (b)), .int (nI (k)), .int (nI (n - 1)), .int (bI (t))]))] H := hP
  have hD : va_D (fun q2 => q2 = q) [(q, .inr (2, [.int (nI (b)), .int (nI (k)), .int (nI (n - 1)), .int (bI (t))]))] := hD
  refine lv_aload_n hx hb dX2_stepBack_10 rfl (lv_at hl 0 rfl) ?_
  refine lv_iconst (v := nI 0) hx hb dX2_stepBack_11 (by decide) ?_
  refine pf_X2_21 hx hb hG hown hK hP hD hS 0 rfl (v := .int (nI (0))) rfl rfl (Nat.le_of_ble_eq_true rfl) dX2_stepBack_12 (fun H locs hP hD hS => ?_)
  have hP : va_P D vwCl [(q, .inr (2, [.int (nI (b)), .int (nI (k)), .int (nI (n - 1)), .int (nI (0))]))] H := hP
  have hD : va_D (fun q2 => q2 = q) [(q, .inr (2, [.int (nI (b)), .int (nI (k)), .int (nI (n - 1)), .int (nI (0))]))] := hD
  exact w_v (PB := fun H => CuRaw D q (nI b) (nI k) (nI (n - 1)) (bI false) H) hP hS hx hb hr hlocks dX2_stepBack_15
set_option maxHeartbeats 4000000 in
set_option maxRecDepth 100000 in
theorem c_lastPlace (l : Launch) (D : va_G) (q b k n : Nat) (t : Bool) (hn : 1 ≤ n) : Met l yX2_lastPlace (ws_ yX2_lastPlace cX2_lastPlace 1 (some .int)) (rmN 0) (va_Pc [.ref (q)] (pz D [] (fun H => CuRaw D q (nI b) (nI k) (nI n) (bI t) H))) (Pq (some (.int (nI (n - 1))))) 0 0 (fun _ => False) := by
  refine m_start (by decide) (Nat.le_of_ble_eq_true rfl) ?_
  intro p e s m below meth c hx hb hr hG hown hlocks hml hB ls hl
  have hl : lv_has ls 1 [(0, .ref (q))] := hl
  obtain ⟨hP, hK⟩ := hB
  refine lv_aload_n hx hb dX2_lastPlace_0 rfl (lv_at hl 0 rfl) ?_
  refine gf_X2_18 hx hb hG hown hK hP 0 rfl rfl dX2_lastPlace_1 ?_
  refine lv_iconst (v := nI 1) hx hb dX2_lastPlace_4 (by decide) ?_
  refine x_isub (v := nI (n - 1)) hx hb dX2_lastPlace_5 (pk_sub (by omega)) ?_
  exact e_i rfl hx hb hr hlocks dX2_lastPlace_6
set_option maxHeartbeats 4000000 in
set_option maxRecDepth 100000 in
/-- whether there is such a place -/
theorem c_oreaches (l : Launch) (D : va_G) (a : Nat → Nat) (n : Nat) (x : Int32) : Met l yX3_reaches (ws_ yX3_reaches cX3_reaches 2 (some .boolean)) (rmN 0) (va_Pc [.ref (a 0), .int (x)] (pz D [] (fun H => va_P D vwCl [(a 0, .inr (3, [.ref (a 1), .int (nI (n))]))] H))) (Pq (some (.int (bI (rch n x))))) 0 0 (fun _ => False) := by
  refine m_start (by decide) (Nat.le_of_ble_eq_true rfl) ?_
  intro p e s m below meth c hx hb hr hG hown hlocks hml hB ls hl
  have hl : lv_has ls 2 [(0, .ref (a 0)), (1, .int (x))] := hl
  obtain ⟨hP, hK⟩ := hB
  refine lv_iload_n hx hb dX3_reaches_0 rfl (lv_at hl 1 rfl) ?_
  refine lv_if_lt (tgt := 16) hx hb dX3_reaches_1 (by decide) (fun c1 => ?_) (fun c1 => ?_)
  · refine lv_iconst (v := nI 0) hx hb dX3_reaches_16 (by decide) ?_
    exact e_z (by rw [rch_lo c1]; rfl) hx hb hr hlocks dX3_reaches_17
  · refine lv_iload_n hx hb dX3_reaches_4 rfl (lv_at hl 1 rfl) ?_
    refine lv_aload_n hx hb dX3_reaches_5 rfl (lv_at hl 0 rfl) ?_
    refine gf_X3_15 hx hb hG hown hK hP 0 rfl rfl dX3_reaches_6 ?_
    refine lv_icmp_ge (tgt := 16) hx hb dX3_reaches_9 (by decide) (fun c2 => ?_) (fun c2 => ?_)
    · refine lv_iconst (v := nI 0) hx hb dX3_reaches_16 (by decide) ?_
      exact e_z (by rw [rch_hi c2]; rfl) hx hb hr hlocks dX3_reaches_17
    · refine lv_iconst (v := nI 1) hx hb dX3_reaches_12 (by decide) ?_
      refine lv_goto (tgt := 17) hx hb dX3_reaches_13 (by decide) ?_
      exact e_z (by rw [rch_ok c1 c2]; rfl) hx hb hr hlocks dX3_reaches_17
set_option maxHeartbeats 4000000 in
set_option maxRecDepth 100000 in
theorem c_signOn (l : Launch) (D : va_G) (cC : ClassId) (a : Nat → Nat) (O : List Int32) (j : Nat) (hj : j < O.length) : Met l yX3_signOn (ws_ yX3_signOn cX3_signOn 2 (some .int)) (rmN 1) (va_Pc [.ref (a 0), .int (nI (j))] (pz D [(cC, .char)] (fun H => OutAt D cC a O H))) (Pq (some (.int (O[j]?.getD 0)))) 0 0 (fun _ => False) := by
  refine m_start (by decide) (Nat.le_of_ble_eq_true rfl) ?_
  intro p e s m below meth c hx hb hr hG hown hlocks hml hB ls hl
  have hl : lv_has ls 2 [(0, .ref (a 0)), (1, .int (nI (j)))] := hl
  obtain ⟨⟨h5, f, hP, hf⟩, hK⟩ := hB
  refine lv_aload_n hx hb dX3_signOn_0 rfl (lv_at hl 0 rfl) ?_
  refine lv_iload_n hx hb dX3_signOn_1 rfl (lv_at hl 1 rfl) ?_
  refine k1_V hx hb hml hown hG cs_X3_19 (c_oreaches l D a O.length (nI j)) (by decide) (pzV (hK.sub (tys' := []) [] rfl) rfl ⟨_, hP.sub (ws' := [_]) [0] rfl⟩ (hP.sub (ws' := [_]) [0] rfl)) rfl hl.1 rfl (Nat.le_of_ble_eq_true rfl) dX3_signOn_2 ⟨Nat.zero_le _, Nat.zero_le _⟩ rfl ?_
  refine x_ifb_eq (tgt := 17) hx hb dX3_signOn_5 (by decide) (fun c1 => ?_) (fun c1 => ?_)
  · exact absurd (rch_in hj (by omega)) (by rw [c1]; decide)
  · refine lv_aload_n hx hb dX3_signOn_8 rfl (lv_at hl 0 rfl) ?_
    refine gf_X3_9 hx hb hG hown hK hP 0 rfl rfl dX3_signOn_9 ?_
    refine lv_iload_n hx hb dX3_signOn_12 rfl (lv_at hl 1 rfl) ?_
    refine x_cald hx hb hK hP 1 0 rfl rfl (by omega) (by decide) dX3_signOn_13 ?_
    rw [hf j hj]
    refine lv_goto (tgt := 18) hx hb dX3_signOn_14 (by decide) ?_
    exact e_i rfl hx hb hr hlocks dX3_signOn_18
set_option maxHeartbeats 4000000 in
set_option maxRecDepth 100000 in
theorem c_startAnew (l : Launch) (D : va_G) (cC : ClassId) (a : Nat → Nat) (O : List Int32) (hap : Ap a 2) : Met l yX3_startAnew (ws_ yX3_startAnew cX3_startAnew 1 none) (rmN 0) (va_Pc [.ref (a 0)] (pz D [(cC, .char)] (fun H => OutAt D cC a O H))) (Wq none (fun H => OutAt D cC a [] H) (Ao a 2)) 0 0 (Ao a 2) := by
  refine m_start (by decide) (Nat.le_of_ble_eq_true rfl) ?_
  intro p e s m below meth c hx hb hr hG hown hlocks hml hB ls hl
  have hl : lv_has ls 1 [(0, .ref (a 0))] := hl
  obtain ⟨⟨h5, f, hP, hf⟩, hK⟩ := hB
  have hD : va_D (Ao a 2) [(a 0, .inr (3, [.ref (a 1), .int (nI (O.length))])), (a 1, .inl (cC, (5000, .inl f)))] := hap.D2
  have hS : va_S (Ao a 2) s.heap s.heap [] := va_S.rf
  refine lv_aload_n hx hb dX3_startAnew_0 rfl (lv_at hl 0 rfl) ?_
  refine lv_iconst (v := nI 0) hx hb dX3_startAnew_1 (by decide) ?_
  refine pf_X3_15 hx hb hG hown hK hP hD hS 0 rfl (v := .int (nI (0))) rfl rfl (Nat.le_of_ble_eq_true rfl) dX3_startAnew_2 (fun H locs hP hD hS => ?_)
  have hP : va_P D vwCl [(a 0, .inr (3, [.ref (a 1), .int (nI (0))])), (a 1, .inl (cC, (5000, .inl f)))] H := hP
  have hD : va_D (Ao a 2) [(a 0, .inr (3, [.ref (a 1), .int (nI (0))])), (a 1, .inl (cC, (5000, .inl f)))] := hD
  exact w_v (PB := fun H => OutAt D cC a [] H) ⟨Nat.zero_le _, f, hP, fun j hj => absurd hj (Nat.not_lt_zero j)⟩ hS hx hb hr hlocks dX3_startAnew_5
set_option maxHeartbeats 4000000 in
set_option maxRecDepth 100000 in
theorem c_append (l : Launch) (D : va_G) (cC : ClassId) (a : Nat → Nat) (O : List Int32) (x : Nat) (hx2 : x < 65536) (ho : O.length < 5000) (hap : Ap a 2) : Met l yX3_append (ws_ yX3_append cX3_append 2 none) (rmN 0) (va_Pc [.ref (a 0), .int (nI (x))] (pz D [(cC, .char)] (fun H => OutAt D cC a O H))) (Wq none (fun H => OutAt D cC a (O ++ [nI x]) H) (Ao a 2)) 0 0 (Ao a 2) := by
  refine m_start (by decide) (Nat.le_of_ble_eq_true rfl) ?_
  intro p e s m below meth c hx hb hr hG hown hlocks hml hB ls hl
  have hl : lv_has ls 2 [(0, .ref (a 0)), (1, .int (nI (x)))] := hl
  obtain ⟨⟨h5, f, hP, hf⟩, hK⟩ := hB
  have hD : va_D (Ao a 2) [(a 0, .inr (3, [.ref (a 1), .int (nI (O.length))])), (a 1, .inl (cC, (5000, .inl f)))] := hap.D2
  have hS : va_S (Ao a 2) s.heap s.heap [] := va_S.rf
  refine lv_aload_n hx hb dX3_append_0 rfl (lv_at hl 0 rfl) ?_
  refine gf_X3_15 hx hb hG hown hK hP 0 rfl rfl dX3_append_1 ?_
  refine lv_sipush (v := nI 5000) hx hb dX3_append_4 (by decide) ?_
  refine x_cmp_ge (tgt := 30) hx hb dX3_append_7 (by decide) (by omega) (by omega) (fun c1 => ?_) (fun c1 => ?_)
  · omega
  · refine lv_aload_n hx hb dX3_append_10 rfl (lv_at hl 0 rfl) ?_
    refine gf_X3_9 hx hb hG hown hK hP 0 rfl rfl dX3_append_11 ?_
    refine lv_aload_n hx hb dX3_append_14 rfl (lv_at hl 0 rfl) ?_
    refine gf_X3_15 hx hb hG hown hK hP 0 rfl rfl dX3_append_15 ?_
    refine lv_iload_n hx hb dX3_append_18 rfl (lv_at hl 1 rfl) ?_
    refine x_cast hx hb hK hP hD hS 1 0 rfl rfl (by omega) (by omega) (by decide) dX3_append_19 (fun H locs hP hD hS => ?_)
    have hP : va_P D vwCl [(a 0, .inr (3, [.ref (a 1), .int (nI (O.length))])), (a 1, .inl (cC, (5000, .inl (upd f (O.length) (nI (x))))))] H := hP
    have hD : va_D (Ao a 2) [(a 0, .inr (3, [.ref (a 1), .int (nI (O.length))])), (a 1, .inl (cC, (5000, .inl (upd f (O.length) (nI (x))))))] := hD
    refine lv_aload_n hx hb dX3_append_20 rfl (lv_at hl 0 rfl) ?_
    refine lv_dup hx hb dX3_append_21 rfl ?_
    refine gf_X3_15 hx hb hG hown hK hP 0 rfl rfl dX3_append_22 ?_
    refine lv_iconst (v := nI 1) hx hb dX3_append_25 (by decide) ?_
    refine x_iadd (v := nI (O.length + 1)) hx hb dX3_append_26 (nI_add _ _) ?_
    refine pf_X3_15 hx hb hG hown hK hP hD hS 0 rfl (v := .int (nI (O.length + 1))) rfl rfl (Nat.le_of_ble_eq_true rfl) dX3_append_27 (fun H locs hP hD hS => ?_)
    have hP : va_P D vwCl [(a 0, .inr (3, [.ref (a 1), .int (nI (O.length + 1))])), (a 1, .inl (cC, (5000, .inl (upd f (O.length) (nI (x))))))] H := hP
    have hD : va_D (Ao a 2) [(a 0, .inr (3, [.ref (a 1), .int (nI (O.length + 1))])), (a 1, .inl (cC, (5000, .inl (upd f (O.length) (nI (x))))))] := hD
    have e : (O ++ [nI x]).length = O.length + 1 := by simp
    exact w_v (PB := fun H => OutAt D cC a (O ++ [nI x]) H) ⟨by omega, _, by rw [e]; exact hP, out_push hf (nI x)⟩ hS hx hb hr hlocks dX3_append_30
theorem i64_neg {x : Int32} (h : x < 0) : Int32.toInt64 x = -(lN x.toInt.natAbs) ∧ x.toInt.natAbs ≤ 2 ^ 31 := by
  have h2 := (fb_rng32 x)
  rw [i_lt] at h
  have e0 : (0 : Int32).toInt = 0 := by decide
  refine ⟨?_, by omega⟩
  apply Int64.toInt_inj.mp
  rw [Int32.toInt_toInt64, Int64.toInt_neg]
  rw [pk_lT (by omega)]
  rw [Int.bmod_eq_of_le (by omega) (by omega)]
  omega
theorem i64_pos {x : Int32} (h : ¬ x < 0) : Int32.toInt64 x = lN x.toInt.natAbs ∧ x.toInt.natAbs < 2 ^ 31 := by
  have h2 := (fb_rng32 x)
  rw [i_lt] at h
  have e0 : (0 : Int32).toInt = 0 := by decide
  refine ⟨?_, by omega⟩
  apply Int64.toInt_inj.mp
  rw [Int32.toInt_toInt64, pk_lT (by omega)]
  omega
theorem l_neg_neg (n : Nat) : -(-(lN n)) = lN n := by simp
theorem abs_val (x : Int32) : (if 0 < Int32.toInt64 x then Int32.toInt64 x else -(Int32.toInt64 x)) = lN x.toInt.natAbs := by
  by_cases h : x < 0
  · obtain ⟨ex, hb⟩ := i64_neg h
    rw [ex, if_neg, l_neg_neg]
    intro z
    rw [Int64.lt_iff_toInt_lt, Int64.toInt_neg, pk_lT (by omega), Int.bmod_eq_of_le (by omega) (by omega)] at z
    have e0 : (0 : Int64).toInt = 0 := by decide
    omega
  · obtain ⟨ex, hb⟩ := i64_pos h
    rw [ex]
    by_cases h0 : 0 < lN x.toInt.natAbs
    · rw [if_pos h0]
    · rw [if_neg h0]
      have e : x.toInt.natAbs = 0 := by
        rcases Nat.eq_zero_or_pos x.toInt.natAbs with q | q
        · exact q
        · exact absurd ((pk_lLT (a := 0) (by decide) (by omega)).mpr q) h0
      rw [e]; rfl
theorem ndg_lt (n : Nat) (hn : n < 10000000000) : n < 10 ^ ndg n := by
  unfold ndg
  repeat' split
  all_goals omega
theorem ndg_ge {n k : Nat} (hk : 1 ≤ k) (h : k < ndg n) : 10 ^ k ≤ n := by
  have h2 := ndg_in n
  unfold ndg at h
  have hk2 : k = 1 ∨ k = 2 ∨ k = 3 ∨ k = 4 ∨ k = 5 ∨ k = 6 ∨ k = 7 ∨ k = 8 ∨ k = 9 := by
    unfold ndg at h2
    omega
  rcases hk2 with e | e | e | e | e | e | e | e | e <;> subst e <;> (repeat' split at h) <;> omega
theorem p10 : ∀ k, k < 11 → 10 ^ k < 2 ^ 63 ∧ 0 < 10 ^ k := by decide
/-- what is written of n behind the places k and higher, by one who leaves the zeros ahead out -/
def dgo (k n : Nat) : List Int32 := dgs (if ndg n ≤ k then ndg n else k) n
theorem dgo_z (n : Nat) : dgo 0 n = [] := by
  unfold dgo
  have := (ndg_in n).1
  rw [if_neg (by omega)]; rfl
theorem dgo_in {k n : Nat} (hk : k < ndg n) : dgo (k + 1) n = nI (48 + n / 10 ^ k % 10) :: dgo k n := by
  unfold dgo
  by_cases h : ndg n ≤ k + 1
  · rw [if_pos h, if_neg (by omega), show ndg n = k + 1 by omega]; rfl
  · rw [if_neg h, if_neg (by omega)]; rfl
theorem dgo_out {k n : Nat} (hk : ndg n ≤ k) : dgo (k + 1) n = dgo k n := by
  unfold dgo
  rw [if_pos (by omega), if_pos hk]
theorem dgo_len (k n : Nat) : (dgo k n).length ≤ k := by
  unfold dgo
  rw [dgs_len]
  split <;> omega
def un : Nat → Nat
  | 0 => 0
  | k + 1 => 10 ^ k
theorem un_step : ∀ k, 10 ^ k / 10 = un k
  | 0 => rfl
  | k + 1 => by rw [Nat.pow_succ, Nat.mul_div_cancel _ (by decide)]; rfl
theorem fa_lt0 (x : Int32) : x < 0 ∨ 0 ≤ x := by
  rw [i_lt, i_le]
  omega
set_option maxHeartbeats 4000000 in
set_option maxRecDepth 100000 in
theorem c_appendNumber (l : Launch) (D : va_G) (cC : ClassId) (a : Nat → Nat) (O : List Int32) (x : Int32) (ho : O.length + 11 ≤ 5000) (hap : Ap a 2) : Met l yX3_appendNumber (ws_ yX3_appendNumber cX3_appendNumber 6 none) (rmN 1) (va_Pc [.ref (a 0), .int (x)] (pz D [(cC, .char)] (fun H => OutAt D cC a O H))) (Wq none (fun H => OutAt D cC a (O ++ decI x) H) (Ao a 2)) 0 0 (Ao a 2) := by
  refine m_start (by decide) (Nat.le_of_ble_eq_true rfl) ?_
  intro p e s m below meth c hx hb hr hG hown hlocks hml hB ls hl
  have hl : lv_has ls 6 [(0, .ref (a 0)), (1, .int (x))] := hl
  obtain ⟨hO, hK⟩ := hB
  have hS : va_S (Ao a 2) s.heap s.heap [] := va_S.rf
  obtain ⟨n, hn⟩ : ∃ n, n = x.toInt.natAbs := ⟨_, rfl⟩
  have hn2 : n ≤ 2 ^ 31 := by have := fb_rng32 x; omega
  refine lv_iload_n hx hb dX3_appendNumber_0 rfl (lv_at hl 1 rfl) ?_
  refine lv_i2l (v := Int32.toInt64 (x)) hx hb dX3_appendNumber_1 rfl ?_
  refine va_mabs_long hx hb (hml.trans hl.1.symm) hown (hG _ ml_X3_23) (hG _ st_J9_abs_067f4) (hG _ in_J9) (hG _ co_J9_abs_067f4) (Nat.le_of_ble_eq_true rfl) (Nat.le_of_ble_eq_true rfl) (Nat.zero_le _) (Nat.zero_le _) dX3_appendNumber_2 ?_
  rw [abs_val, ← hn]
  refine lv_lstore_n (lv' := [(2, .long (lN (n))), (0, .ref (a 0)), (1, .int (x))]) hx hb dX3_appendNumber_5 rfl hl (by decide) rfl (fun ls hl => ?_)
  refine lv_iload_n hx hb dX3_appendNumber_6 rfl (lv_at hl 2 rfl) ?_
  have TAIL : ∀ (O1 : List Int32) (H : Heap) (locs : List Loc), O1 ++ dgo 10 n = O ++ decI x → O1.length ≤ O.length + 1 → OutAt D cC a O1 H → va_S (Ao a 2) s.heap H locs → ∀ ls : Array Slot, lv_has ls 6 [(2, .long (lN n)), (0, .ref (a 0)), (1, .int x)] → W p l e (rmN 1) s m [.ref (a 0), .int (x)].toArray below meth c H locs 0 0 (MQ below (Wq none (fun H => OutAt D cC a (O ++ decI x) H) (Ao a 2)) [.ref (a 0), .int (x)].toArray s 0 0 (Ao a 2)) (F0 m 16 ls []) := by
    intro O1 H locs hO1 hl1 hO hS ls hl
    refine x_ldc2 (v := lN (1000000000)) hx hb hown (hG _ kl_X3_33) dX3_appendNumber_16 (by decide) ?_
    refine lv_lstore (lv' := [(4, .long (lN (1000000000))), (2, .long (lN (n))), (0, .ref (a 0)), (1, .int (x))]) hx hb dX3_appendNumber_19 hl (by decide) rfl (fun ls hl => ?_)
    suffices KK : ∀ (k : Nat) (O2 : List Int32) (H : Heap) (locs : List Loc), k ≤ 10 → O2 ++ dgo k n = O ++ decI x → O2.length + k ≤ O.length + 11 → OutAt D cC a O2 H → va_S (Ao a 2) s.heap H locs → ∀ ls : Array Slot, lv_has ls 6 [(4, .long (lN (un k))), (2, .long (lN (n))), (0, .ref (a 0)), (1, .int (x))] → W p l e (rmN 1) s m [.ref (a 0), .int (x)].toArray below meth c H locs 0 0 (MQ below (Wq none (fun H => OutAt D cC a (O ++ decI x) H) (Ao a 2)) [.ref (a 0), .int (x)].toArray s 0 0 (Ao a 2)) (F0 m 21 ls []) from KK 10 O1 H locs (by omega) hO1 (by omega) hO hS ls hl
    clear hO1 hl1 hO hS hl
    intro k
    induction k with
    | zero =>
      intro O2 H locs hk1 hO2 hl2 hO hS ls hl
      have hl : lv_has ls 6 [(4, .long (lN (0))), (2, .long (lN (n))), (0, .ref (a 0)), (1, .int (x))] := hl
      refine lv_lload hx hb dX3_appendNumber_21 (lv_at hl 0 rfl) ?_
      refine lv_lconst (v := lN (0)) hx hb dX3_appendNumber_23 (by decide) ?_
      refine W.lcmp hx hb dX3_appendNumber_24 ?_
      refine x_lif_le (tgt := 71) hx hb dX3_appendNumber_25 (by decide) (by omega) (by omega) (fun c1 => ?_) (fun c1 => ?_)
      · have e : O2 = O ++ decI x := by rw [← hO2]; rw [dgo_z, List.append_nil]
        exact w_v (PB := fun H => OutAt D cC a (O ++ decI x) H) (by rw [← e]; exact hO) hS hx hb hr hlocks dX3_appendNumber_71
      · omega
    | succ k ih =>
      intro O2 H locs hk1 hO2 hl2 hO hS ls hl
      have hl : lv_has ls 6 [(4, .long (lN (10 ^ k))), (2, .long (lN (n))), (0, .ref (a 0)), (1, .int (x))] := hl
      obtain ⟨hp1, hp2⟩ := p10 k (by omega)
      have hun : 10 ^ k / 10 = un k := un_step k
      refine lv_lload hx hb dX3_appendNumber_21 (lv_at hl 0 rfl) ?_
      refine lv_lconst (v := lN (0)) hx hb dX3_appendNumber_23 (by decide) ?_
      refine W.lcmp hx hb dX3_appendNumber_24 ?_
      refine x_lif_le (tgt := 71) hx hb dX3_appendNumber_25 (by decide) (by omega) (by omega) (fun c1 => ?_) (fun c1 => ?_)
      · omega
      · refine lv_lload hx hb dX3_appendNumber_28 (lv_at hl 0 rfl) ?_
        refine lv_lload_n hx hb dX3_appendNumber_30 rfl (lv_at hl 1 rfl) ?_
        refine W.lcmp hx hb dX3_appendNumber_31 ?_
        refine x_lif_le (tgt := 42) hx hb dX3_appendNumber_32 (by decide) (by omega) (by omega) (fun c2 => ?_) (fun c2 => ?_)
        · have hkn : k < ndg n := by rcases Nat.lt_or_ge k (ndg n) with q | q; exact q; exact absurd c2 (Nat.not_le.mpr (Nat.lt_of_lt_of_le (ndg_lt n (by omega)) (Nat.pow_le_pow_right (by decide) q)))
          refine lv_aload_n hx hb dX3_appendNumber_42 rfl (lv_at hl 2 rfl) ?_
          refine x_ldc2 (v := lN (48)) hx hb hown (hG _ kl_X3_35) dX3_appendNumber_43 (by decide) ?_
          refine lv_lload_n hx hb dX3_appendNumber_46 rfl (lv_at hl 1 rfl) ?_
          refine lv_lload hx hb dX3_appendNumber_47 (lv_at hl 0 rfl) ?_
          refine x_ldiv hx hb dX3_appendNumber_49 (by first | omega | exact Nat.lt_of_le_of_lt (Nat.div_le_self _ _) (by omega)) (by omega) (by omega) ?_
          refine x_ldc2 (v := lN (10)) hx hb hown (hG _ kl_X3_37) dX3_appendNumber_50 (by decide) ?_
          refine x_lrem hx hb dX3_appendNumber_53 (by first | omega | exact Nat.lt_of_le_of_lt (Nat.div_le_self _ _) (by omega)) (by omega) (by omega) ?_
          refine x_ladd (v := lN (48 + ((n / (10 ^ k)) % 10))) hx hb dX3_appendNumber_54 (lN_add _ _) ?_
          refine lv_l2i (v := nI (48 + ((n / (10 ^ k)) % 10))) hx hb dX3_appendNumber_55 (lN_i _) ?_
          refine lv_i2c (v := nI (48 + ((n / (10 ^ k)) % 10))) hx hb dX3_appendNumber_56 (i2c_nI (by omega)) ?_
          refine k2_V hx hb hml hown hG cs_X3_29 (c_append l D cC a (O2) (48 + ((n / (10 ^ k)) % 10)) (by omega) (by omega) hap) (by decide) (pzV hK rfl hO.rc hO) rfl hl.1 rfl (Nat.le_of_ble_eq_true rfl) dX3_appendNumber_57 ⟨Nat.zero_le _, Nat.zero_le _⟩ rfl hS (fun q h => h) (fun H locs hO hz hk hS => ?_)
          rw [dgo_in hkn] at hO2
          refine lv_lload hx hb dX3_appendNumber_60 (lv_at hl 0 rfl) ?_
          refine x_ldc2 (v := lN (10)) hx hb hown (hG _ kl_X3_37) dX3_appendNumber_62 (by decide) ?_
          refine x_ldiv hx hb dX3_appendNumber_65 (by first | omega | exact Nat.lt_of_le_of_lt (Nat.div_le_self _ _) (by omega)) (by omega) (by omega) ?_
          refine lv_lstore (lv' := [(4, .long (lN ((10 ^ k) / 10))), (2, .long (lN (n))), (0, .ref (a 0)), (1, .int (x))]) hx hb dX3_appendNumber_66 hl (by decide) rfl (fun ls hl => ?_)
          refine lv_goto (tgt := 21) hx hb dX3_appendNumber_68 (by decide) ?_
          exact ih (O2 ++ [nI (48 + n / 10 ^ k % 10)]) H locs (by omega) (by rw [List.append_assoc]; exact hO2) (by rw [List.length_append]; simp; omega) hO hS ls (by rw [← hun]; exact (lv_sub hl [0, 1, 2, 3] rfl))
        · refine lv_lload hx hb dX3_appendNumber_35 (lv_at hl 0 rfl) ?_
          refine lv_lconst (v := lN (1)) hx hb dX3_appendNumber_37 (by decide) ?_
          refine W.lcmp hx hb dX3_appendNumber_38 ?_
          refine x_lif_ne (tgt := 60) hx hb dX3_appendNumber_39 (by decide) (by omega) (by omega) (fun c3 => ?_) (fun c3 => ?_)
          · have hkn : ndg n ≤ k := by rcases Nat.lt_or_ge k (ndg n) with q | q; exact absurd (ndg_ge (by rcases Nat.eq_zero_or_pos k with z | z; exact absurd (by rw [z]) c3; exact z) q) (by omega); exact q
            rw [dgo_out hkn] at hO2
            refine lv_lload hx hb dX3_appendNumber_60 (lv_at hl 0 rfl) ?_
            refine x_ldc2 (v := lN (10)) hx hb hown (hG _ kl_X3_37) dX3_appendNumber_62 (by decide) ?_
            refine x_ldiv hx hb dX3_appendNumber_65 (by first | omega | exact Nat.lt_of_le_of_lt (Nat.div_le_self _ _) (by omega)) (by omega) (by omega) ?_
            refine lv_lstore (lv' := [(4, .long (lN ((10 ^ k) / 10))), (2, .long (lN (n))), (0, .ref (a 0)), (1, .int (x))]) hx hb dX3_appendNumber_66 hl (by decide) rfl (fun ls hl => ?_)
            refine lv_goto (tgt := 21) hx hb dX3_appendNumber_68 (by decide) ?_
            exact ih O2 H locs (by omega) hO2 (by omega) hO hS ls (by rw [← hun]; exact (lv_sub hl [0, 1, 2, 3] rfl))
          · have hkn : k < ndg n := by have k0 : k = 0 := (Nat.pow_eq_one.mp c3).resolve_left (by decide); have := (ndg_in n).1; omega
            refine lv_aload_n hx hb dX3_appendNumber_42 rfl (lv_at hl 2 rfl) ?_
            refine x_ldc2 (v := lN (48)) hx hb hown (hG _ kl_X3_35) dX3_appendNumber_43 (by decide) ?_
            refine lv_lload_n hx hb dX3_appendNumber_46 rfl (lv_at hl 1 rfl) ?_
            refine lv_lload hx hb dX3_appendNumber_47 (lv_at hl 0 rfl) ?_
            refine x_ldiv hx hb dX3_appendNumber_49 (by first | omega | exact Nat.lt_of_le_of_lt (Nat.div_le_self _ _) (by omega)) (by omega) (by omega) ?_
            refine x_ldc2 (v := lN (10)) hx hb hown (hG _ kl_X3_37) dX3_appendNumber_50 (by decide) ?_
            refine x_lrem hx hb dX3_appendNumber_53 (by first | omega | exact Nat.lt_of_le_of_lt (Nat.div_le_self _ _) (by omega)) (by omega) (by omega) ?_
            refine x_ladd (v := lN (48 + ((n / (10 ^ k)) % 10))) hx hb dX3_appendNumber_54 (lN_add _ _) ?_
            refine lv_l2i (v := nI (48 + ((n / (10 ^ k)) % 10))) hx hb dX3_appendNumber_55 (lN_i _) ?_
            refine lv_i2c (v := nI (48 + ((n / (10 ^ k)) % 10))) hx hb dX3_appendNumber_56 (i2c_nI (by omega)) ?_
            refine k2_V hx hb hml hown hG cs_X3_29 (c_append l D cC a (O2) (48 + ((n / (10 ^ k)) % 10)) (by omega) (by omega) hap) (by decide) (pzV hK rfl hO.rc hO) rfl hl.1 rfl (Nat.le_of_ble_eq_true rfl) dX3_appendNumber_57 ⟨Nat.zero_le _, Nat.zero_le _⟩ rfl hS (fun q h => h) (fun H locs hO hz hk hS => ?_)
            rw [dgo_in hkn] at hO2
            refine lv_lload hx hb dX3_appendNumber_60 (lv_at hl 0 rfl) ?_
            refine x_ldc2 (v := lN (10)) hx hb hown (hG _ kl_X3_37) dX3_appendNumber_62 (by decide) ?_
            refine x_ldiv hx hb dX3_appendNumber_65 (by first | omega | exact Nat.lt_of_le_of_lt (Nat.div_le_self _ _) (by omega)) (by omega) (by omega) ?_
            refine lv_lstore (lv' := [(4, .long (lN ((10 ^ k) / 10))), (2, .long (lN (n))), (0, .ref (a 0)), (1, .int (x))]) hx hb dX3_appendNumber_66 hl (by decide) rfl (fun ls hl => ?_)
            refine lv_goto (tgt := 21) hx hb dX3_appendNumber_68 (by decide) ?_
            exact ih (O2 ++ [nI (48 + n / 10 ^ k % 10)]) H locs (by omega) (by rw [List.append_assoc]; exact hO2) (by rw [List.length_append]; simp; omega) hO hS ls (by rw [← hun]; exact (lv_sub hl [0, 1, 2, 3] rfl))
  refine lv_if_ge (tgt := 16) hx hb dX3_appendNumber_7 (by decide) (fun c0 => ?_) (fun c0 => ?_)
  · have hx0 : ¬ x < 0 := fun z => by rw [i_le] at c0; rw [i_lt] at z; omega
    exact TAIL O s.heap [] (by unfold decI dgo; rw [if_pos (ndg_in n).2, if_neg hx0, hn]; rfl) (by omega) hO hS ls (lv_sub hl [0, 1, 2] rfl)
  · have hx0 : x < 0 := by rcases fa_lt0 x with q | q; exact q; exact absurd q c0
    refine lv_aload_n hx hb dX3_appendNumber_10 rfl (lv_at hl 1 rfl) ?_
    refine lv_bipush (v := nI 45) hx hb dX3_appendNumber_11 (by decide) ?_
    refine k2_V hx hb hml hown hG cs_X3_29 (c_append l D cC a (O) (45) (by omega) (by omega) hap) (by decide) (pzV hK rfl hO.rc hO) rfl hl.1 rfl (Nat.le_of_ble_eq_true rfl) dX3_appendNumber_13 ⟨Nat.zero_le _, Nat.zero_le _⟩ rfl hS (fun q h => h) (fun H locs hO hz hk hS => ?_)
    exact TAIL (O ++ [nI 45]) H locs (by unfold decI dgo; rw [if_pos (ndg_in n).2, if_pos hx0, hn, List.append_assoc]) (by simp) hO hS ls (lv_sub hl [0, 1, 2] rfl)
