/-! ===== what the methods that throw need of their state ===== -/
theorem exB_k : ∀ w ∈ exB, (∃ x, w = Cond.declares x) ∨ ∃ a b, w = Cond.castable a b := by
  intro w hw
  unfold exB at hw
  simp only [List.mem_cons, List.not_mem_nil, or_false] at hw
  rcases hw with h | h | h | h | h | h | h
  · exact Or.inl ⟨_, h⟩
  · exact Or.inl ⟨_, h⟩
  · exact Or.inl ⟨_, h⟩
  · exact Or.inr ⟨_, _, h⟩
  · exact Or.inr ⟨_, _, h⟩
  · exact Or.inr ⟨_, _, h⟩
  · exact Or.inr ⟨_, _, h⟩
theorem Ex.moved {u U : State} (hvm : u.vm.Alike U.vm) (h : Ex u) : Ex U := by
  intro w hw
  have h0 := h w hw
  have hT := exB_onT w hw
  have e9 := Cond.onTables_vm (A := #[]) (A' := #[]) (U := u) (U' := U) U.vm w hT
  have hU : U.setVm U.vm = U := rfl
  rw [hU] at e9
  rw [← e9]
  rcases exB_k w hw with ⟨x, rfl⟩ | ⟨a, b, rfl⟩
  · rw [Cond.declares_setVm hvm]; exact h0
  · rw [Cond.castable_setVm hvm]; exact h0
/-- the texts: index and text -/
def txs : List (Nat × String) := [(237, "no such book"), (52, "no such bound"), (260, "no such cursor"), (240, "the book of the queue"), (252, "the book is full"), (242, "not a plain book"), (105, "no such key"), (108, "no such number of pairs to put"), (244, "both books are the same"), (130, "the queue is empty"), (135, "not in the queue"), (258, "no such kind"), (262, "the cursor is closed"), (156, "no next one"), (267, "no pair that the cursor may change"), (175, "not a cursor of pairs"), (256, "no such place"), (212, "no such character")]
def Tx (ta : Nat → Nat) (U : State) : Prop := ∀ q ∈ txs, vk_R RX4 q.1 q.2 (ta q.1) U
theorem Tx.warm {ta : Nat → Nat} {s U : State} (hW : s.WarmedH U.vm) (h : Tx ta s) : Tx ta U := fun q hq => vk_R.warm hW (h q hq)
theorem Tx.same {ta : Nat → Nat} {u U : State} (hv : U.vm = u.vm) (h : Tx ta u) : Tx ta U := fun q hq => vk_R.same hv (h q hq)
/-- the two statics of Throwable lie below z -/
def Zs (z : Nat) (U : State) (H : Heap) : Prop := vx_Zq Bundle.tN "UNASSIGNED_STACK" Bundle.steD (fun q => z ≤ q) U H ∧ vx_Zq Bundle.tN "SUPPRESSED_SENTINEL" Bundle.listD (fun q => z ≤ q) U H
theorem Zs.moved {z : Nat} {u U : State} {H : Heap} (hvm : u.vm.Alike U.vm) (h : Zs z u H) : Zs z U H := ⟨vx_Zq.moved hvm h.1, vx_Zq.moved hvm h.2⟩
theorem Zs.kept {z : Nat} {U : State} {H H1 : Heap} (h : Zs z U H) (hq : ∀ a : Nat, a < H.size → ¬ z ≤ a → H1[a]? = H[a]?) : Zs z U H1 := ⟨vx_Zq.kept h.1 hq, vx_Zq.kept h.2 hq⟩
def pzt (D : va_G) (tys : List (ClassId × FieldType)) (ta : Nat → Nat) (z : Nat) (PH : Heap → Prop) : State → Prop := fun U => PH U.heap ∧ va_K D vwCl tys U ∧ Ex U ∧ Tx ta U ∧ Zs z U U.heap
theorem pzt_blind {av : List Value} {D : va_G} {tys : List (ClassId × FieldType)} {ta : Nat → Nat} {z : Nat} {PH : Heap → Prop} : FrameBlind (va_Pc av (pzt D tys ta z PH)) := fun a U g mk q => ⟨q.1, q.2.1, va_K.moved (u := U) (U := U.calling g mk a) (Vm.Alike.refl U.vm) q.2.2.1, q.2.2.2.1.moved (u := U) (U := U.calling g mk a) (Vm.Alike.refl U.vm), q.2.2.2.2.1.same (u := U) (U := U.calling g mk a) rfl, q.2.2.2.2.2.moved (u := U) (U := U.calling g mk a) (Vm.Alike.refl U.vm)⟩
theorem pztV {s : State} {H : Heap} {C : String} {T : u_T} {N : Nat} {D : va_G} {tys : List (ClassId × FieldType)} {ta : Nat → Nat} {z : Nat} {PH : Heap → Prop} {ci b : Nat} {As : List Value} (hK : va_K D vwCl tys s) (hE : Ex s) (hT : Tx ta s) (hZ : Zs z s s.heap) (hq : ∀ a : Nat, a < s.heap.size → ¬ z ≤ a → H[a]? = s.heap[a]?) (hc : vwCl[ci]? = some (C, T, N)) (hr : Rc D ci b H) (hH : PH H) : PreV s H C b (va_Pc (.ref b :: As) (pzt D tys ta z PH)) As := by
  obtain ⟨fs, hP⟩ := hr
  exact ⟨pzt_blind, va_recv hK hP (q0 := 0) hc rfl, fun U hU hW => ⟨rfl, by rw [hU]; exact hH, va_K.moved hW.alike hK, hE.moved hW.alike, hT.warm hW, by rw [hU]; exact (hZ.kept hq).moved hW.alike⟩⟩
