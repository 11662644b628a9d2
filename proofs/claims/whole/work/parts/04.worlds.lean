/-! ===== what the cells of a book, a record, a cursor, the output hold ===== -/
abbrev bkW (cI : ClassId) (a : Nat → Nat) (k v : Nat → Int32) (lg : Bool) (bd n : Nat) : va_W := [(a 0, .inr (1, [.ref (a 1), .ref (a 2), .ref (a 3), .int (bI lg), .int (nI bd), .int (nI n)])), (a 1, .inl (cI, (200, .inl k))), (a 2, .inl (cI, (200, .inl v)))]
abbrev arW (cI : ClassId) (b : Nat → Nat) (k v : Nat → Int32) (n now : Nat) : va_W := [(b 0, .inr (0, [.ref (b 1), .ref (b 2), .int (nI n), .int (nI now)])), (b 1, .inl (cI, (200, .inl k))), (b 2, .inl (cI, (200, .inl v)))]
/-- addresses i < n of a are q -/
def Ao (a : Nat → Nat) (n : Nat) : Nat → Prop := fun q => ∃ i, i < n ∧ q = a i
/-- the first n addresses are apart -/
def Ap (a : Nat → Nat) (n : Nat) : Prop := ∀ i j, i < n → j < n → a i = a j → i = j
def BkAt (D : va_G) (cI : ClassId) (a : Nat → Nat) (lg : Bool) (bd : Nat) (L : Bk) (H : Heap) : Prop := ∃ k v, va_P D vwCl (bkW cI a k v lg bd L.length) H ∧ Rp L k v
def ArAt (D : va_G) (cI : ClassId) (b : Nat → Nat) (R : Bk) (now : Nat) (H : Heap) : Prop := ∃ k v, va_P D vwCl (arW cI b k v R.length now) H ∧ Rp R k v
/-- where the record of the book at a lies -/
abbrev rec_ (a : Nat → Nat) : Nat → Nat := fun i => a (3 + i)
def BookAt (D : va_G) (cI : ClassId) (a : Nat → Nat) (lg : Bool) (bd : Nat) (L : Bk) (N : Nat) (H : Heap) : Prop := BkAt D cI a lg bd L H ∧ ∃ R now, ArAt D cI (rec_ a) R now H ∧ Tq L R now N
theorem BkAt.len {D : va_G} {cI : ClassId} {a : Nat → Nat} {lg : Bool} {bd : Nat} {L : Bk} {H : Heap} (h : BkAt D cI a lg bd L H) : L.length ≤ 200 := by
  obtain ⟨_, _, -, h⟩ := h
  exact h.1
theorem BkAt.kept {D : va_G} {cI : ClassId} {a : Nat → Nat} {lg : Bool} {bd : Nat} {L : Bk} {H H1 : Heap} (h : BkAt D cI a lg bd L H) (hq : ∀ i, i < 3 → H1[a i]? = H[a i]?) : BkAt D cI a lg bd L H1 := by
  obtain ⟨k, v, h1, h2⟩ := h
  refine ⟨k, v, h1.kept (fun j q hj => ?_), h2⟩
  match j, hj with
  | 0, hj => cases hj; exact hq 0 (by decide)
  | 1, hj => cases hj; exact hq 1 (by decide)
  | 2, hj => cases hj; exact hq 2 (by decide)
  | j + 3, hj => simp [bkW] at hj
theorem ArAt.kept {D : va_G} {cI : ClassId} {b : Nat → Nat} {R : Bk} {now : Nat} {H H1 : Heap} (h : ArAt D cI b R now H) (hq : ∀ i, i < 3 → H1[b i]? = H[b i]?) : ArAt D cI b R now H1 := by
  obtain ⟨k, v, h1, h2⟩ := h
  refine ⟨k, v, h1.kept (fun j q hj => ?_), h2⟩
  match j, hj with
  | 0, hj => cases hj; exact hq 0 (by decide)
  | 1, hj => cases hj; exact hq 1 (by decide)
  | 2, hj => cases hj; exact hq 2 (by decide)
  | j + 3, hj => simp [arW] at hj
theorem BookAt.kept {D : va_G} {cI : ClassId} {a : Nat → Nat} {lg : Bool} {bd : Nat} {L : Bk} {N : Nat} {H H1 : Heap} (h : BookAt D cI a lg bd L N H) (hq : ∀ i, i < 6 → H1[a i]? = H[a i]?) : BookAt D cI a lg bd L N H1 := by
  obtain ⟨h1, R, now, h2, h3⟩ := h
  exact ⟨h1.kept (fun i hi => hq i (by omega)), R, now, h2.kept (fun i hi => hq (3 + i) (by omega)), h3⟩
theorem BookAt.mono {D : va_G} {cI : ClassId} {a : Nat → Nat} {lg : Bool} {bd : Nat} {L : Bk} {N M : Nat} {H : Heap} (h : BookAt D cI a lg bd L N H) (hM : N ≤ M) : BookAt D cI a lg bd L M H := by
  obtain ⟨h1, R, now, h2, h3⟩ := h
  exact ⟨h1, R, now, h2, h3.mono hM⟩
/-- the object itself, for the calls on it and the reads of its fields -/
theorem BkAt.obj {D : va_G} {cI : ClassId} {a : Nat → Nat} {lg : Bool} {bd : Nat} {L : Bk} {H : Heap} (h : BkAt D cI a lg bd L H) : va_P D vwCl [(a 0, .inr (1, [.ref (a 1), .ref (a 2), .ref (a 3), .int (bI lg), .int (nI bd), .int (nI L.length)]))] H := by
  obtain ⟨k, v, h1, -⟩ := h
  exact h1.sub [0] rfl
theorem BkAt.rc {D : va_G} {cI : ClassId} {a : Nat → Nat} {lg : Bool} {bd : Nat} {L : Bk} {H : Heap} (h : BkAt D cI a lg bd L H) : Rc D 1 (a 0) H := ⟨_, h.obj⟩
theorem ArAt.rc {D : va_G} {cI : ClassId} {b : Nat → Nat} {R : Bk} {now : Nat} {H : Heap} (h : ArAt D cI b R now H) : Rc D 0 (b 0) H := by
  obtain ⟨k, v, h1, -⟩ := h
  exact ⟨_, h1.sub (ws' := [_]) [0] rfl⟩
theorem va_lt {D : va_G} {ws : va_W} {H : Heap} (h : va_P D vwCl ws H) {k : Nat} {q : Nat × va_E} (hk : ws[k]? = some q) : q.1 < H.size := (h k q hk).lt
theorem BkAt.lt {D : va_G} {cI : ClassId} {a : Nat → Nat} {lg : Bool} {bd : Nat} {L : Bk} {H : Heap} (h : BkAt D cI a lg bd L H) {i : Nat} (hi : i < 3) : a i < H.size := by
  obtain ⟨k, v, h1, -⟩ := h
  match i, hi with
  | 0, _ => exact va_lt h1 (k := 0) rfl
  | 1, _ => exact va_lt h1 (k := 1) rfl
  | 2, _ => exact va_lt h1 (k := 2) rfl
theorem ArAt.lt {D : va_G} {cI : ClassId} {b : Nat → Nat} {R : Bk} {now : Nat} {H : Heap} (h : ArAt D cI b R now H) {i : Nat} (hi : i < 3) : b i < H.size := by
  obtain ⟨k, v, h1, -⟩ := h
  match i, hi with
  | 0, _ => exact va_lt h1 (k := 0) rfl
  | 1, _ => exact va_lt h1 (k := 1) rfl
  | 2, _ => exact va_lt h1 (k := 2) rfl
theorem BookAt.lt {D : va_G} {cI : ClassId} {a : Nat → Nat} {lg : Bool} {bd : Nat} {L : Bk} {N : Nat} {H : Heap} (h : BookAt D cI a lg bd L N H) {i : Nat} (hi : i < 6) : a i < H.size := by
  obtain ⟨h1, R, now, h2, h3⟩ := h
  by_cases q : i < 3
  · exact h1.lt q
  · have := h2.lt (i := i - 3) (by omega)
    rw [show rec_ a (i - 3) = a i from congrArg a (by omega)] at this
    exact this
/-- three cells apart make va_D, whatever they hold -/
theorem Ap.D3 {a : Nat → Nat} (h : Ap a 3) {e0 e1 e2 : va_E} : va_D (Ao a 3) [(a 0, e0), (a 1, e1), (a 2, e2)] := by
  refine ⟨fun i j x y hi hj hxy => ?_, fun k q hk => ?_⟩
  · have key : ∀ (k : Nat) (q : Nat × va_E), ([(a 0, e0), (a 1, e1), (a 2, e2)] : va_W)[k]? = some q → k < 3 ∧ q.1 = a k := by
      intro k q hk
      match k, hk with
      | 0, hk => cases hk; exact ⟨by decide, rfl⟩
      | 1, hk => cases hk; exact ⟨by decide, rfl⟩
      | 2, hk => cases hk; exact ⟨by decide, rfl⟩
      | k + 3, hk => simp at hk
    obtain ⟨i1, i2⟩ := key i x hi
    obtain ⟨j1, j2⟩ := key j y hj
    exact h i j i1 j1 (by rw [← i2, ← j2]; exact hxy)
  · match k, hk with
    | 0, hk => cases hk; exact ⟨0, by decide, rfl⟩
    | 1, hk => cases hk; exact ⟨1, by decide, rfl⟩
    | 2, hk => cases hk; exact ⟨2, by decide, rfl⟩
    | k + 3, hk => simp at hk
theorem Ap.D6 {a : Nat → Nat} (h : Ap a 6) {e0 e1 e2 e3 e4 e5 : va_E} : va_D (Ao a 6) [(a 0, e0), (a 1, e1), (a 2, e2), (a 3, e3), (a 4, e4), (a 5, e5)] := by
  have key : ∀ (k : Nat) (q : Nat × va_E), ([(a 0, e0), (a 1, e1), (a 2, e2), (a 3, e3), (a 4, e4), (a 5, e5)] : va_W)[k]? = some q → k < 6 ∧ q.1 = a k := by
    intro k q hk
    match k, hk with
    | 0, hk => cases hk; exact ⟨by decide, rfl⟩
    | 1, hk => cases hk; exact ⟨by decide, rfl⟩
    | 2, hk => cases hk; exact ⟨by decide, rfl⟩
    | 3, hk => cases hk; exact ⟨by decide, rfl⟩
    | 4, hk => cases hk; exact ⟨by decide, rfl⟩
    | 5, hk => cases hk; exact ⟨by decide, rfl⟩
    | k + 6, hk => simp at hk
  refine ⟨fun i j x y hi hj hxy => ?_, fun k q hk => ?_⟩
  · obtain ⟨i1, i2⟩ := key i x hi
    obtain ⟨j1, j2⟩ := key j y hj
    exact h i j i1 j1 (by rw [← i2, ← j2]; exact hxy)
  · obtain ⟨k1, k2⟩ := key k q hk
    exact ⟨k, k1, k2⟩
theorem Ap.sub {a : Nat → Nat} {n m : Nat} (h : Ap a n) (hm : m ≤ n) : Ap a m := fun i j hi hj e => h i j (by omega) (by omega) e
theorem Ap.rc3 {a : Nat → Nat} (h : Ap a 6) : Ap (rec_ a) 3 := fun i j hi hj e => by
  have := h (3 + i) (3 + j) (by omega) (by omega) e
  omega
theorem Ao.mono {a : Nat → Nat} {n m : Nat} (hm : n ≤ m) {q : Nat} (h : Ao a n q) : Ao a m q := by
  obtain ⟨i, hi, e⟩ := h
  exact ⟨i, by omega, e⟩
theorem Ao.rc3 {a : Nat → Nat} {q : Nat} (h : Ao (rec_ a) 3 q) : Ao a 6 q := by
  obtain ⟨i, hi, e⟩ := h
  exact ⟨3 + i, by omega, e⟩
/-- the book's own cells aren't its record's -/
theorem Ap.off {a : Nat → Nat} (h : Ap a 6) {i : Nat} (hi : i < 3) : ¬ Ao (rec_ a) 3 (a i) := by
  rintro ⟨j, hj, e⟩
  have := h i (3 + j) (by omega) (by omega) e
  omega
theorem Ap.off' {a : Nat → Nat} (h : Ap a 6) {i : Nat} (hi : i < 3) : ¬ Ao a 3 (a (3 + i)) := by
  rintro ⟨j, hj, e⟩
  have := h (3 + i) j (by omega) (by omega) e
  omega
/-! ===== ends ===== -/
section EE
variable {p : Program} {l : Launch} {e : Env} {R : Room} {s : State} {m : MethodId} {args : Array Value} {below : List Frame} {meth : Method} {c : Code} {H : Heap} {locs : List Loc} {cells slots : Nat}
variable {cc : ByteArray} {pc : Nat} {ls : Array Slot} {A : Nat → Prop} {PB : Heap → Prop}
theorem e_i {v v0 : Int32} (hv : v = v0) (hx : p.tables.exec = Jvm.exec) (hb : c.code = cc) (hr : meth.sig.returnType = some .int) (hlocks : meth.locks = false) (hdg : decode cc pc = .ok (.ireturn, 1)) : W p l e R s m args below meth c s.heap [] cells slots (MQ below (Pq (some (.int v0))) args s cells slots (fun _ => False)) (F0 m pc ls [.int v]) := by
  subst hv
  exact W.iret hx hb hr (fun t ht _ => ⟨rfl, ht⟩) (fun q hq => absurd hq List.not_mem_nil) hdg hlocks
theorem e_z {v : Int32} {b : Bool} (hv : v = bI b) (hx : p.tables.exec = Jvm.exec) (hb : c.code = cc) (hr : meth.sig.returnType = some .boolean) (hlocks : meth.locks = false) (hdg : decode cc pc = .ok (.ireturn, 1)) : W p l e R s m args below meth c s.heap [] cells slots (MQ below (Pq (some (.int (bI b)))) args s cells slots (fun _ => False)) (F0 m pc ls [.int v]) := by
  subst hv
  exact W.zret hx hb hr (bI_nar b) (fun t ht _ => ⟨rfl, ht⟩) (fun q hq => absurd hq List.not_mem_nil) hdg hlocks
theorem e_l {v v0 : Int64} (hv : v = v0) (hx : p.tables.exec = Jvm.exec) (hb : c.code = cc) (hr : meth.sig.returnType = some .long) (hlocks : meth.locks = false) (hdg : decode cc pc = .ok (.lreturn, 1)) : W p l e R s m args below meth c s.heap [] cells slots (MQ below (Pq (some (.long v0))) args s cells slots (fun _ => False)) (F0 m pc ls [.long v]) := by
  subst hv
  exact W.lret hx hb hr (fun t ht _ => ⟨rfl, ht⟩) (fun q hq => absurd hq List.not_mem_nil) hdg hlocks
theorem e_r {C : String} {v v0 : Nat} (hv : v = v0) (hx : p.tables.exec = Jvm.exec) (hb : c.code = cc) (hr : meth.sig.returnType = some (.object C)) (hlocks : meth.locks = false) (hdg : decode cc pc = .ok (.areturn, 1)) : W p l e R s m args below meth c s.heap [] cells slots (MQ below (Pq (some (.ref v0))) args s cells slots (fun _ => False)) (F0 m pc ls [.ref v]) := by
  subst hv
  exact W.aret hx hb hr (Or.inl ⟨_, rfl⟩) (Or.inr ⟨_, rfl⟩) (fun t ht _ => ⟨rfl, ht⟩) (fun q hq => absurd hq List.not_mem_nil) hdg hlocks
theorem e_v (hx : p.tables.exec = Jvm.exec) (hb : c.code = cc) (hr : meth.sig.returnType = none) (hlocks : meth.locks = false) (hdg : decode cc pc = .ok (.return_, 1)) : W p l e R s m args below meth c s.heap [] cells slots (MQ below (Pq none) args s cells slots (fun _ => False)) (F0 m pc ls []) :=
  W.vret hx hb hr (fun t ht _ => ⟨rfl, ht⟩) (fun q hq => absurd hq List.not_mem_nil) hdg hlocks
theorem w_i {v v0 : Int32} (hv : v = v0) (hPB : PB H) (hS : va_S A s.heap H locs) (hx : p.tables.exec = Jvm.exec) (hb : c.code = cc) (hr : meth.sig.returnType = some .int) (hlocks : meth.locks = false) (hdg : decode cc pc = .ok (.ireturn, 1)) : W p l e R s m args below meth c H locs cells slots (MQ below (Wq (some (.int v0)) PB A) args s cells slots A) (F0 m pc ls [.int v]) := by
  subst hv
  exact W.iret hx hb hr (fun t ht _ => ⟨rfl, by rw [ht]; exact hPB, hS.F ht⟩) hS.2.2 hdg hlocks
theorem w_z {v : Int32} {b : Bool} (hv : v = bI b) (hPB : PB H) (hS : va_S A s.heap H locs) (hx : p.tables.exec = Jvm.exec) (hb : c.code = cc) (hr : meth.sig.returnType = some .boolean) (hlocks : meth.locks = false) (hdg : decode cc pc = .ok (.ireturn, 1)) : W p l e R s m args below meth c H locs cells slots (MQ below (Wq (some (.int (bI b))) PB A) args s cells slots A) (F0 m pc ls [.int v]) := by
  subst hv
  exact W.zret hx hb hr (bI_nar b) (fun t ht _ => ⟨rfl, by rw [ht]; exact hPB, hS.F ht⟩) hS.2.2 hdg hlocks
theorem w_v (hPB : PB H) (hS : va_S A s.heap H locs) (hx : p.tables.exec = Jvm.exec) (hb : c.code = cc) (hr : meth.sig.returnType = none) (hlocks : meth.locks = false) (hdg : decode cc pc = .ok (.return_, 1)) : W p l e R s m args below meth c H locs cells slots (MQ below (Wq none PB A) args s cells slots A) (F0 m pc ls []) :=
  W.vret hx hb hr (fun t ht _ => ⟨rfl, by rw [ht]; exact hPB, hS.F ht⟩) hS.2.2 hdg hlocks
end EE
