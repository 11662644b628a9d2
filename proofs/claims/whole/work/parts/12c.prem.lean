/-! ===== what the Statement gives of the start ===== -/
set_option maxRecDepth 100000 in
theorem tbl_tx : ∀ q ∈ txs, Cond.stringRef RX4 q.1 q.2 ∈ lw_tbl := fun q hq => of_decide_eq_true (List.all_eq_true.mp (show txs.all (fun q => decide (Cond.stringRef RX4 q.1 q.2 ∈ lw_tbl)) = true from by decide +kernel) q hq)
set_option maxRecDepth 100000 in
theorem nrw_tx : ∀ q ∈ txs, Cond.exactly (.string RX4 q.1) "java/lang/String" ∈ flatC (Jvm.Cond.and given_1 narrow_1) := fun q hq => of_decide_eq_true (List.all_eq_true.mp (show txs.all (fun q => decide (Cond.exactly (.string RX4 q.1) "java/lang/String" ∈ flatC (Jvm.Cond.and given_1 narrow_1))) = true from by decide +kernel) q hq)
set_option maxRecDepth 100000 in
theorem at_Nx {args : Array Value} {s : State} (h : (Jvm.Cond.and given_1 narrow_1).before args s = true) : Nx s := by
  have hf := flat_of_before _ h
  exact ⟨va_Nc.of (args := args) (hf _ (by decide +kernel)), va_Nc.of (args := args) (hf _ (by decide +kernel)), va_Nc.of (args := args) (hf _ (by decide +kernel)), va_Nc.of (args := args) (hf _ (by decide +kernel)), va_Nc.of (args := args) (hf _ (by decide +kernel)), va_Nc.of (args := args) (hf _ (by decide +kernel))⟩
set_option maxRecDepth 100000 in
theorem at_Zs {args : Array Value} {s : State} (h : (Jvm.Cond.and given_1 narrow_1).before args s = true) (hts : ∀ w ∈ lw_tbl, w.before args s = true) : Zs s.heap.size s s.heap := by
  have hf := flat_of_before _ h
  exact ⟨vx_Zqof (hts _ (by decide +kernel)) (hts _ (GW_tbl in_Throwable)) (hf _ (by decide +kernel)) (fun a ha => Nat.not_le.mpr ha), vx_Zqof (hts _ (by decide +kernel)) (hts _ (GW_tbl in_Throwable)) (hf _ (by decide +kernel)) (fun a ha => Nat.not_le.mpr ha)⟩
theorem at_Tx {args : Array Value} {s : State} (h : (Jvm.Cond.and given_1 narrow_1).before args s = true) (hts : ∀ w ∈ lw_tbl, w.before args s = true) : ∃ ta : Nat → Nat, Tx ta s := by
  have hf := flat_of_before _ h
  refine ⟨fun k => match (Term.string RX4 k).eval #[] s none [] s with | some (.ref a) => a | _ => 0, fun q hq => ?_⟩
  obtain ⟨a, c9, cell, k9, h1, -⟩ := Cond.exactly_spec (args := args) (first := s) (o := none) (s := s) (idx := []) (t := .string RX4 q.1) (cls := "java/lang/String") (hf _ (nrw_tx q hq))
  obtain ⟨h2, h3⟩ := vk_R.of (own := RX4) (tx := q.2) (k := q.1) (a := a) (hts _ (tbl_tx q hq)) h1
  refine ⟨h2, ?_⟩
  simp only [h3]
theorem K_arr {args : Array Value} {s : State} {ty : FieldType} (h : (Cond.arrayClass ty).before args s = true) (hn : ∀ cA, s.vm.findClass ("[" ++ ty.toString) = some cA → va_RA s cA ty) : ∃ cA, ArrOfT s cA ty ∧ va_RA s cA ty := by
  obtain ⟨cA, kA, comp, h1, h2, h3⟩ := Cond.arrayClass_spec h
  exact ⟨cA, fun n z => ⟨fun k hk => (by cases hk), kA, h2, comp, h3⟩, hn _ h1⟩
theorem vS_trans {H0 H1 H2 : Heap} {locs : List Loc} (h1 : va_S (fun q => H0.size ≤ q) H0 H1 []) (h2 : va_S (fun q => H1.size ≤ q) H1 H2 locs) : va_S (fun q => H0.size ≤ q) H0 H2 [] := ⟨Nat.le_trans h1.1 h2.1, fun q hq hn => (h2.2.1 q (Nat.lt_of_lt_of_le hq h1.1) (Nat.not_le.mpr (Nat.lt_of_lt_of_le hq h1.1))).trans (h1.2.1 q hq hn), fun z hz => nomatch hz⟩
def R_law : String := "ArrivalbooksLaw"
def lw_P (b : Addr) (xs : List Int32) (args : Array Value) (s : State) : Prop := args = #[.ref b] ∧ s.IntsAt b xs ∧ xs.length ≤ 2560 ∧ (Jvm.Cond.and given_1 narrow_1).before args s = true
/-- what a walk over the start with the record d0 says of its end, said of the start itself -/
theorem lw_closed {s t : State} {o : Outcome} {d0 : Drawn} {L : List Loc} {k n : Nat} (hd0 : s.drawn.sameBut d0 lw_cs) (hv : ∃ v, o = .returned v) (hW : (s.setDrawn d0).WarmedH t.vm) (hs : (s.setDrawn d0).sameButNew ({ t with vm := s.vm } : State) L k n) : State.butDraws s t lw_cs (fun t1 => Framed s o t1 L k n) := by
  have h2 : t.drawn = d0 := congrArg State.drawn hs.1
  refine ⟨⟨hv, hW, State.sameButNew.setDrawn hs s.drawn⟩, ?_, by decide⟩
  rw [h2]
  exact hd0
def lw_Q (_ : Array Value) (s : State) (o : Outcome) (t : State) : Prop := o = .returned (some (.int 1)) ∧ State.butDraws s t lw_cs (fun t1 => Framed s o t1 [] 1089 25010)
def lw_Z (below : List Frame) (a : Array Value) (s : State) : State → Prop := fun t => ∃ o, t.status = .running ∧ Ended t below o ∧ lw_Q a s o t
/-- the law's own end, with 1 on the stack, nothing written that was there before, its room as the claim has it; d0: the record of draws at this point (at the entry s.drawn: begin with 'refine W.base ?_' and 'have hd0 := Drawn.sameBut.refl s.drawn lw_cs') -/
theorem lw_ret {p : Program} {l : Launch} {e : Env} {s : State} {m : MethodId} {below : List Frame} {meth : Method} {c : Code} {b : Nat} {d0 : Drawn} (hd0 : s.drawn.sameBut d0 lw_cs) (hx : p.tables.exec = Jvm.exec) (hb : c.code = code) (hr : meth.sig.returnType = ret) (hlocks : meth.locks = false) {pc : Nat} {H : Heap} {ls : Array Slot} (hdg : decode code pc = .ok (.ireturn, 1)) : W p l e room_1 (s.setDrawn d0) m #[Value.ref b] below meth c H [] 1089 25010 (lw_Z below #[Value.ref b] s) (F0 m pc ls [.int 1]) := by
  intro T hT X
  obtain ⟨fs, hret, hrun, hended, hW, hframe⟩ := X.leave (v := some (.int 1)) (hlocks := hlocks) (fun h => by rw [hr] at h; cases h)
  have hmeth' : T.vm.method? m = some meth := X.method'
  refine ⟨T.setFrames fs, ?_, .returned (some (.int 1)), hrun, hended, rfl, lw_closed hd0 ⟨_, rfl⟩ hW hframe⟩
  jvm_step X.here [X.here.top, hx, hb, hdg, hmeth', hr, ret, narrow_b1]
  (try refine ⟨rfl, ?_⟩); (try refine ⟨rfl, ?_⟩)
  first | (intro acts; rw [hret _ acts rfl rfl rfl]) | rw [hret _ _ rfl rfl rfl]
  exact Steps.refl _
/-- what holds at the law's entry: the machine, the code, the tables' words (any of lw_tbl by 'hts w (by decide +kernel)'), the script of L ints xs at the cell b, what the Statement gives of the start (any of its parts by flat_of_before) -/
def lw_At (p : Program) (s : State) (m : MethodId) (meth : Method) (c : Code) (b L : Nat) (xs : Nat → Int32) : Prop :=
  p.tables.exec = Jvm.exec ∧ c.code = code ∧ meth.sig.returnType = ret ∧ c.maxLocals = 10 ∧ s.vm.findClass R_law = some m.cls ∧ (∀ w ∈ lw_tbl, w.before #[Value.ref b] s = true) ∧ va_X b L xs s s.heap ∧ b < s.heap.size ∧ meth.locks = false ∧ (Jvm.Cond.and given_1 narrow_1).before #[Value.ref b] s = true
