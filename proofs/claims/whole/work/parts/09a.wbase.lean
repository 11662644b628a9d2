/-! ===== what the law's wrappers need ===== -/
/-- pairs of exceptions that aren't castable -/
def Nx (s : State) : Prop := va_Nc "java/lang/IllegalArgumentException" "java/lang/IndexOutOfBoundsException" s ∧ va_Nc "java/lang/IllegalStateException" "java/lang/IndexOutOfBoundsException" s ∧ va_Nc "java/lang/IllegalStateException" "java/lang/IllegalArgumentException" s ∧ va_Nc "java/util/NoSuchElementException" "java/lang/IndexOutOfBoundsException" s ∧ va_Nc "java/util/NoSuchElementException" "java/lang/IllegalArgumentException" s ∧ va_Nc "java/util/NoSuchElementException" "java/lang/IllegalStateException" s
theorem Nx.moved {u U : State} (hvm : u.vm.Alike U.vm) (h : Nx u) : Nx U := ⟨h.1.moved hvm, h.2.1.moved hvm, h.2.2.1.moved hvm, h.2.2.2.1.moved hvm, h.2.2.2.2.1.moved hvm, h.2.2.2.2.2.moved hvm⟩
def pzw (D : va_G) (tys : List (ClassId × FieldType)) (ta : Nat → Nat) (z : Nat) (PH : Heap → Prop) : State → Prop := fun U => PH U.heap ∧ va_K D vwCl tys U ∧ Ex U ∧ Tx ta U ∧ Zs z U U.heap ∧ Nx U
theorem pzw_blind {av : List Value} {D : va_G} {tys : List (ClassId × FieldType)} {ta : Nat → Nat} {z : Nat} {PH : Heap → Prop} : FrameBlind (va_Pc av (pzw D tys ta z PH)) := fun a U g mk q => ⟨q.1, q.2.1, va_K.moved (u := U) (U := U.calling g mk a) (Vm.Alike.refl U.vm) q.2.2.1, q.2.2.2.1.moved (u := U) (U := U.calling g mk a) (Vm.Alike.refl U.vm), q.2.2.2.2.1.same (u := U) (U := U.calling g mk a) rfl, q.2.2.2.2.2.1.moved (u := U) (U := U.calling g mk a) (Vm.Alike.refl U.vm), q.2.2.2.2.2.2.moved (u := U) (U := U.calling g mk a) (Vm.Alike.refl U.vm)⟩
theorem pzwS {s : State} {H : Heap} {D : va_G} {tys : List (ClassId × FieldType)} {ta : Nat → Nat} {z : Nat} {PH : Heap → Prop} {As : List Value} (hK : va_K D vwCl tys s) (hE : Ex s) (hT : Tx ta s) (hZ : Zs z s s.heap) (hX : Nx s) (hq : ∀ a : Nat, a < s.heap.size → ¬ z ≤ a → H[a]? = s.heap[a]?) (hH : PH H) : PreS s H (va_Pc As (pzw D tys ta z PH)) As := ⟨pzw_blind, fun U hU hW => ⟨rfl, by rw [hU]; exact hH, va_K.moved hW.alike hK, hE.moved hW.alike, hT.warm hW, by rw [hU]; exact (hZ.kept hq).moved hW.alike, hX.moved hW.alike⟩⟩
theorem m_startW {l : Launch} {y : MethodName} {rm : Room} {Qc : Array Value → State → Outcome → State → Prop} {mc ms : Nat} {free : Addr → Prop} {cc : ByteArray} {maxL : Nat} {ret : Option FieldType} {hh : List (Nat × Nat × Nat × Nat)} {av : List Value} {Bp : State → Prop}
    (hy : plainName y.cls = true) (hlen : (lg_sl av).length ≤ maxL)
    (body : ∀ (p : Program) (e : Env) (s : State) (m : MethodId) (below : List Frame) (meth : Method) (c : Code), p.tables.exec = Jvm.exec → c.code = cc → meth.sig.returnType = ret → (∀ w ∈ GW, w.before av.toArray s = true) → s.vm.findClass y.cls = some m.cls → meth.locks = false → c.maxLocals = maxL → c.exceptionTable.toList = tableOf hh → Bp s →
      ∀ ls : Array Slot, lv_has ls maxL (lv_args 0 av) → W p l e rm s m av.toArray below meth c s.heap [] 0 0 (MQ below Qc av.toArray s mc ms free) (F0 m 0 ls [])) :
    Met l y (wsW_ y cc maxL ret hh) rm (va_Pc av Bp) Qc mc ms free := by
  refine va_MetW (cc := cc) (maxL := maxL) (ret := ret) (hh := hh) hy rfl ?_
  intro p e s m args below meth c s₁ B hml hv
  obtain ⟨rfl, hB⟩ := hv
  rw [lg_entry_eq]
  have hts := atoms_spec (ws := wsW_ y cc maxL ret hh) B.pre
  exact body p e s m below meth c B.exec B.bytes B.returns (fun w hw => hts w (List.mem_cons_of_mem _ hw)) (findClass_of_methodNamed B.named) B.notSynchronized hml (vx_table (x := y) B (hts _ List.mem_cons_self)) hB _ (lv_entry av hlen)
theorem oneK {D : va_G} {a : Nat} {e : va_E} {H H1 : Heap} (h : va_P D vwCl [(a, e)] H) (hq : H1[a]? = H[a]?) : va_P D vwCl [(a, e)] H1 := h.kept (fun k q hk => by
  match k, hk with
  | 0, hk => cases hk; exact hq
  | k + 1, hk => simp at hk)
theorem Wc.kept {D : va_G} {cI cC : ClassId} {ad : Nat → Nat} {S : St} {N : Nat} {H H1 : Heap} (h : Wc D cI cC ad S N H) (hq : ∀ i, i < 36 → H1[ad i]? = H[ad i]?) : Wc D cI cC ad S N H1 := by
  obtain ⟨h1, h2, ⟨LS, h3⟩, h4, h5⟩ := h
  refine ⟨h1.kept (fun k q hk => ?_), fun b hb => (h2 b hb).kept (fun i hi => hq _ (by omega)), ⟨LS, h3.kept (fun i hi => hq _ (by omega))⟩, fun c9 hc9 => (h4 c9 hc9).kept (hq _ (by omega)), h5.kept (fun i hi => hq _ (by omega))⟩
  match k, hk with
  | 0, hk => cases hk; exact hq 0 (by decide)
  | k + 1, hk => simp at hk
def zl (b : Bool) : Int64 := if b = true then lN 1 else lN 0
abbrev ouW (cL : ClassId) (qo : Nat) (f : Nat → Int64) : va_W := [(qo, .inl (cL, (1, .inr (.inl f))))]
/-- codes and states of what a call answers -/
def cdP {α : Type} (n : Nat) (S : St) (t : Nat × α × St) : Prop := t.1 = 0 ∨ (t.1 ≤ n ∧ t.2.2 = S)
section LS
variable {p : Program} {l : Launch} {e : Env} {R : Room} {s : State} {m : MethodId} {args : Array Value} {below : List Frame} {meth : Method} {c : Code} {H : Heap} {locs : List Loc} {cells slots : Nat} {Q : State → Prop}
variable {cc : ByteArray} {pc : Nat} {ls : Array Slot} {rest : List Value}
theorem x_last0 (hx : p.tables.exec = Jvm.exec) (hb : c.code = cc) {D : va_G} {tys : List (ClassId × FieldType)} {a : Nat} {A : Nat → Prop} {H0 : Heap} {cA : ClassId} {f : Nat → Int64} {x : Int64} (hK : va_K D vwCl tys s) (hP : va_P D vwCl (ouW cA a f) H) (hS : va_S A H0 H locs) (hA : A a) (t0 : Nat) (ht : tys[t0]? = some (cA, .long)) (hdg : decode cc pc = .ok (.lastore, 1))
    (kk : ∀ (H1 : Heap) (locs1 : List Loc) (f' : Nat → Int64), f' 0 = x → va_P D vwCl (ouW cA a f') H1 → (∀ q, q ≠ a → H1[q]? = H[q]?) → va_S A H0 H1 locs1 → W p l e R s m args below meth c H1 locs1 cells slots Q (F0 m (pc + 1) ls rest)) : W p l e R s m args below meth c H locs cells slots Q (F0 m pc ls (.long x :: .int (nI 0) :: .ref a :: rest)) := by
  have e0 : (nI 0).toNatClampNeg = 0 := nI_clamp (by decide)
  refine W.last hx hb (hP 0 _ rfl) ((hK.2 t0 _ ht).1 1 (fun j => .long (f j))) (fun q => by cases q) (by show ¬ (nI 0 < 0 ∨ (arrV _ _ _).slots.size ≤ _); rw [arrV_size]; exact vp_in_nI (n := 0) (N := 1) (by decide) (by decide)) rfl rfl hdg fun H1 e1 z oq => ?_
  refine kk H1 _ (vp_updL f 0 x) rfl (fun k q hk => ?_) oq (hS.put z oq hA)
  match k, hk with
  | 0, hk =>
    cases hk
    show H1[a]? = some (vp_cell _ _)
    rw [e1, e0, vp_cell_l, vp_cell_l, arrV_store]
    congr 2
    funext q
    by_cases hq : q = 0
    · subst hq
      simp [updV, vp_updL]
    · simp [updV, vp_updL, hq]
  | k + 1, hk => simp at hk
theorem x_dast0 (hx : p.tables.exec = Jvm.exec) (hb : c.code = cc) {D : va_G} {tys : List (ClassId × FieldType)} {a : Nat} {A : Nat → Prop} {H0 : Heap} {cA : ClassId} {f : Nat → UInt64} {x : UInt64} (hK : va_K D vwCl tys s) (hP : va_P D vwCl [(a, .inl (cA, (1, .inr (.inr (.inr (.inl f))))))] H) (hS : va_S A H0 H locs) (hA : A a) (t0 : Nat) (ht : tys[t0]? = some (cA, .double)) (hdg : decode cc pc = .ok (.dastore, 1))
    (kk : ∀ (H1 : Heap) (locs1 : List Loc) (f' : Nat → UInt64), f' 0 = x → va_P D vwCl [(a, .inl (cA, (1, .inr (.inr (.inr (.inl f'))))))] H1 → (∀ q, q ≠ a → H1[q]? = H[q]?) → va_S A H0 H1 locs1 → W p l e R s m args below meth c H1 locs1 cells slots Q (F0 m (pc + 1) ls rest)) : W p l e R s m args below meth c H locs cells slots Q (F0 m pc ls (.double x :: .int (nI 0) :: .ref a :: rest)) := by
  have e0 : (nI 0).toNatClampNeg = 0 := nI_clamp (by decide)
  refine W.dast hx hb (hP 0 _ rfl) ((hK.2 t0 _ ht).1 1 (fun j => .double (f j))) (fun q => by cases q) (by show ¬ (nI 0 < 0 ∨ (arrV _ _ _).slots.size ≤ _); rw [arrV_size]; exact vp_in_nI (n := 0) (N := 1) (by decide) (by decide)) rfl rfl hdg fun H1 e1 z oq => ?_
  refine kk H1 _ (vf_upd f 0 x) rfl (fun k q hk => ?_) oq (hS.put z oq hA)
  match k, hk with
  | 0, hk =>
    cases hk
    show H1[a]? = some (vp_cell _ _)
    rw [e1, e0, vp_cell_d, vp_cell_d, arrV_store]
    congr 2
    funext q
    by_cases hq : q = 0
    · subst hq
      simp [updV, vf_upd]
    · simp [updV, vf_upd, hq]
  | k + 1, hk => simp at hk
end LS
/-- the room of the law's wrappers -/
abbrev rmW : Room := { frames := 9, cells := 1, slots := 6, locals := 260 }
