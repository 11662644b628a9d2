section
-- ===== PART A: goes FIRST, ahead of the names: the tables' words, and 'selects' of the private methods out of them =====
/-- a private method of a class that the tables say can be made, by its rows of tables_1 -/
def lw_okq (q : MethodName × Nat) : Prop := (q.1.cls ≠ "java/lang/invoke/MethodHandle" ∧ q.1.cls ≠ "java/lang/invoke/VarHandle") ∧ Cond.instantiable q.1.cls q.2 ∈ tables_1 ∧ Cond.privateMethod q.1 ∈ tables_1 ∧ Cond.instanceMethod q.1 ∈ tables_1
theorem lw_p0 : lw_okq (⟨"Arrivalbooks", "bookOfNumber", "(I)LArrivalbooks$Book;"⟩, 9) := ⟨⟨by decide +kernel, by decide +kernel⟩, List.mem_of_getElem? (i := 16) (by decide +kernel), List.mem_of_getElem? (i := 148) (by decide +kernel), List.mem_of_getElem? (i := 149) (by decide +kernel)⟩
theorem lw_p1 : lw_okq (⟨"java/lang/Throwable", "fillInStackTrace", "(I)Ljava/lang/Throwable;"⟩, 6) := ⟨⟨by decide +kernel, by decide +kernel⟩, List.mem_of_getElem? (i := 191) (by decide +kernel), List.mem_of_getElem? (i := 189) (by decide +kernel), List.mem_of_getElem? (i := 190) (by decide +kernel)⟩
theorem lw_p2 : lw_okq (⟨"Arrivalbooks", "isAsTheTheoremTells", "(LArrivalbooks$Book;)Z"⟩, 9) := ⟨⟨by decide +kernel, by decide +kernel⟩, List.mem_of_getElem? (i := 16) (by decide +kernel), List.mem_of_getElem? (i := 221) (by decide +kernel), List.mem_of_getElem? (i := 222) (by decide +kernel)⟩
theorem lw_p3 : lw_okq (⟨"Arrivalbooks$Arrivals", "indexOfKey", "(I)I"⟩, 4) := ⟨⟨by decide +kernel, by decide +kernel⟩, List.mem_of_getElem? (i := 30) (by decide +kernel), List.mem_of_getElem? (i := 237) (by decide +kernel), List.mem_of_getElem? (i := 238) (by decide +kernel)⟩
theorem lw_p4 : lw_okq (⟨"Arrivalbooks", "isCopyInOrder", "(LArrivalbooks$Book;)Z"⟩, 9) := ⟨⟨by decide +kernel, by decide +kernel⟩, List.mem_of_getElem? (i := 16) (by decide +kernel), List.mem_of_getElem? (i := 241) (by decide +kernel), List.mem_of_getElem? (i := 242) (by decide +kernel)⟩
theorem lw_p5 : lw_okq (⟨"Arrivalbooks", "isEqualInOppositeOrder", "(LArrivalbooks$Book;)Z"⟩, 9) := ⟨⟨by decide +kernel, by decide +kernel⟩, List.mem_of_getElem? (i := 16) (by decide +kernel), List.mem_of_getElem? (i := 282) (by decide +kernel), List.mem_of_getElem? (i := 283) (by decide +kernel)⟩
theorem lw_p6 : lw_okq (⟨"Arrivalbooks", "closeCursors", "(II)V"⟩, 9) := ⟨⟨by decide +kernel, by decide +kernel⟩, List.mem_of_getElem? (i := 16) (by decide +kernel), List.mem_of_getElem? (i := 326) (by decide +kernel), List.mem_of_getElem? (i := 327) (by decide +kernel)⟩
theorem lw_p7 : lw_okq (⟨"Arrivalbooks", "cursorOfNumber", "(I)LArrivalbooks$Cursor;"⟩, 9) := ⟨⟨by decide +kernel, by decide +kernel⟩, List.mem_of_getElem? (i := 16) (by decide +kernel), List.mem_of_getElem? (i := 330) (by decide +kernel), List.mem_of_getElem? (i := 331) (by decide +kernel)⟩
theorem lw_p8 : lw_okq (⟨"Arrivalbooks", "bookChangedByHand", "(I)LArrivalbooks$Book;"⟩, 9) := ⟨⟨by decide +kernel, by decide +kernel⟩, List.mem_of_getElem? (i := 16) (by decide +kernel), List.mem_of_getElem? (i := 348) (by decide +kernel), List.mem_of_getElem? (i := 349) (by decide +kernel)⟩
theorem lw_p9 : lw_okq (⟨"Arrivalbooks", "requireRoomForKey", "(LArrivalbooks$Book;I)V"⟩, 9) := ⟨⟨by decide +kernel, by decide +kernel⟩, List.mem_of_getElem? (i := 16) (by decide +kernel), List.mem_of_getElem? (i := 353) (by decide +kernel), List.mem_of_getElem? (i := 354) (by decide +kernel)⟩
theorem lw_p10 : lw_okq (⟨"Arrivalbooks", "requireRoom", "(LArrivalbooks$Book;I)V"⟩, 9) := ⟨⟨by decide +kernel, by decide +kernel⟩, List.mem_of_getElem? (i := 16) (by decide +kernel), List.mem_of_getElem? (i := 358) (by decide +kernel), List.mem_of_getElem? (i := 359) (by decide +kernel)⟩
theorem lw_p11 : lw_okq (⟨"Arrivalbooks", "plainBook", "(I)LArrivalbooks$Book;"⟩, 9) := ⟨⟨by decide +kernel, by decide +kernel⟩, List.mem_of_getElem? (i := 16) (by decide +kernel), List.mem_of_getElem? (i := 393) (by decide +kernel), List.mem_of_getElem? (i := 394) (by decide +kernel)⟩
theorem lw_p12 : lw_okq (⟨"Arrivalbooks", "requireTwoBooks", "(II)V"⟩, 9) := ⟨⟨by decide +kernel, by decide +kernel⟩, List.mem_of_getElem? (i := 16) (by decide +kernel), List.mem_of_getElem? (i := 474) (by decide +kernel), List.mem_of_getElem? (i := 475) (by decide +kernel)⟩
theorem lw_p13 : lw_okq (⟨"Arrivalbooks", "requireKind", "(I)V"⟩, 9) := ⟨⟨by decide +kernel, by decide +kernel⟩, List.mem_of_getElem? (i := 16) (by decide +kernel), List.mem_of_getElem? (i := 532) (by decide +kernel), List.mem_of_getElem? (i := 533) (by decide +kernel)⟩
theorem lw_p14 : lw_okq (⟨"Arrivalbooks", "openCursor", "(I)LArrivalbooks$Cursor;"⟩, 9) := ⟨⟨by decide +kernel, by decide +kernel⟩, List.mem_of_getElem? (i := 16) (by decide +kernel), List.mem_of_getElem? (i := 548) (by decide +kernel), List.mem_of_getElem? (i := 549) (by decide +kernel)⟩
theorem lw_p15 : lw_okq (⟨"Arrivalbooks", "requireChangeablePair", "(LArrivalbooks$Cursor;)V"⟩, 9) := ⟨⟨by decide +kernel, by decide +kernel⟩, List.mem_of_getElem? (i := 16) (by decide +kernel), List.mem_of_getElem? (i := 572) (by decide +kernel), List.mem_of_getElem? (i := 573) (by decide +kernel)⟩
def lw_privs_1 : List (MethodName × Nat) := [(⟨"Arrivalbooks", "bookOfNumber", "(I)LArrivalbooks$Book;"⟩, 9), (⟨"java/lang/Throwable", "fillInStackTrace", "(I)Ljava/lang/Throwable;"⟩, 6), (⟨"Arrivalbooks", "isAsTheTheoremTells", "(LArrivalbooks$Book;)Z"⟩, 9), (⟨"Arrivalbooks$Arrivals", "indexOfKey", "(I)I"⟩, 4), (⟨"Arrivalbooks", "isCopyInOrder", "(LArrivalbooks$Book;)Z"⟩, 9), (⟨"Arrivalbooks", "isEqualInOppositeOrder", "(LArrivalbooks$Book;)Z"⟩, 9), (⟨"Arrivalbooks", "closeCursors", "(II)V"⟩, 9), (⟨"Arrivalbooks", "cursorOfNumber", "(I)LArrivalbooks$Cursor;"⟩, 9), (⟨"Arrivalbooks", "bookChangedByHand", "(I)LArrivalbooks$Book;"⟩, 9), (⟨"Arrivalbooks", "requireRoomForKey", "(LArrivalbooks$Book;I)V"⟩, 9), (⟨"Arrivalbooks", "requireRoom", "(LArrivalbooks$Book;I)V"⟩, 9), (⟨"Arrivalbooks", "plainBook", "(I)LArrivalbooks$Book;"⟩, 9), (⟨"Arrivalbooks", "requireTwoBooks", "(II)V"⟩, 9), (⟨"Arrivalbooks", "requireKind", "(I)V"⟩, 9), (⟨"Arrivalbooks", "openCursor", "(I)LArrivalbooks$Cursor;"⟩, 9), (⟨"Arrivalbooks", "requireChangeablePair", "(LArrivalbooks$Cursor;)V"⟩, 9)]
theorem lw_r1 : ∀ q ∈ lw_privs_1, lw_okq q := List.forall_mem_cons.mpr ⟨lw_p0, List.forall_mem_cons.mpr ⟨lw_p1, List.forall_mem_cons.mpr ⟨lw_p2, List.forall_mem_cons.mpr ⟨lw_p3, List.forall_mem_cons.mpr ⟨lw_p4, List.forall_mem_cons.mpr ⟨lw_p5, List.forall_mem_cons.mpr ⟨lw_p6, List.forall_mem_cons.mpr ⟨lw_p7, List.forall_mem_cons.mpr ⟨lw_p8, List.forall_mem_cons.mpr ⟨lw_p9, List.forall_mem_cons.mpr ⟨lw_p10, List.forall_mem_cons.mpr ⟨lw_p11, List.forall_mem_cons.mpr ⟨lw_p12, List.forall_mem_cons.mpr ⟨lw_p13, List.forall_mem_cons.mpr ⟨lw_p14, List.forall_mem_cons.mpr ⟨lw_p15, fun _ h => absurd h List.not_mem_nil⟩⟩⟩⟩⟩⟩⟩⟩⟩⟩⟩⟩⟩⟩⟩⟩
theorem lw_p16 : lw_okq (⟨"Arrivalbooks", "requirePlace", "(LArrivalbooks$Book;I)V"⟩, 9) := ⟨⟨by decide +kernel, by decide +kernel⟩, List.mem_of_getElem? (i := 16) (by decide +kernel), List.mem_of_getElem? (i := 639) (by decide +kernel), List.mem_of_getElem? (i := 640) (by decide +kernel)⟩
theorem lw_p17 : lw_okq (⟨"ArrivalbooksModel", "refuse", "(I)I"⟩, 11) := ⟨⟨by decide +kernel, by decide +kernel⟩, List.mem_of_getElem? (i := 752) (by decide +kernel), List.mem_of_getElem? (i := 804) (by decide +kernel), List.mem_of_getElem? (i := 805) (by decide +kernel)⟩
theorem lw_p18 : lw_okq (⟨"ArrivalbooksModel", "closes", "(II)V"⟩, 11) := ⟨⟨by decide +kernel, by decide +kernel⟩, List.mem_of_getElem? (i := 752) (by decide +kernel), List.mem_of_getElem? (i := 808) (by decide +kernel), List.mem_of_getElem? (i := 809) (by decide +kernel)⟩
theorem lw_p19 : lw_okq (⟨"ArrivalbooksModel", "told", "(I)I"⟩, 11) := ⟨⟨by decide +kernel, by decide +kernel⟩, List.mem_of_getElem? (i := 752) (by decide +kernel), List.mem_of_getElem? (i := 812) (by decide +kernel), List.mem_of_getElem? (i := 813) (by decide +kernel)⟩
theorem lw_p20 : lw_okq (⟨"ArrivalbooksModel", "denies", "(I)Z"⟩, 11) := ⟨⟨by decide +kernel, by decide +kernel⟩, List.mem_of_getElem? (i := 752) (by decide +kernel), List.mem_of_getElem? (i := 823) (by decide +kernel), List.mem_of_getElem? (i := 824) (by decide +kernel)⟩
theorem lw_p21 : lw_okq (⟨"ArrivalbooksModel", "isFull", "(II)Z"⟩, 11) := ⟨⟨by decide +kernel, by decide +kernel⟩, List.mem_of_getElem? (i := 752) (by decide +kernel), List.mem_of_getElem? (i := 827) (by decide +kernel), List.mem_of_getElem? (i := 828) (by decide +kernel)⟩
theorem lw_p22 : lw_okq (⟨"ArrivalbooksModel", "place", "(II)I"⟩, 11) := ⟨⟨by decide +kernel, by decide +kernel⟩, List.mem_of_getElem? (i := 752) (by decide +kernel), List.mem_of_getElem? (i := 831) (by decide +kernel), List.mem_of_getElem? (i := 832) (by decide +kernel)⟩
theorem lw_p23 : lw_okq (⟨"ArrivalbooksModel", "puts", "(III)V"⟩, 11) := ⟨⟨by decide +kernel, by decide +kernel⟩, List.mem_of_getElem? (i := 752) (by decide +kernel), List.mem_of_getElem? (i := 835) (by decide +kernel), List.mem_of_getElem? (i := 836) (by decide +kernel)⟩
theorem lw_p24 : lw_okq (⟨"ArrivalbooksModel", "comes", "(III)V"⟩, 11) := ⟨⟨by decide +kernel, by decide +kernel⟩, List.mem_of_getElem? (i := 752) (by decide +kernel), List.mem_of_getElem? (i := 839) (by decide +kernel), List.mem_of_getElem? (i := 840) (by decide +kernel)⟩
theorem lw_p25 : lw_okq (⟨"ArrivalbooksModel", "takes", "(II)V"⟩, 11) := ⟨⟨by decide +kernel, by decide +kernel⟩, List.mem_of_getElem? (i := 752) (by decide +kernel), List.mem_of_getElem? (i := 843) (by decide +kernel), List.mem_of_getElem? (i := 844) (by decide +kernel)⟩
theorem lw_p26 : lw_okq (⟨"ArrivalbooksModel", "says", "(Z)Z"⟩, 11) := ⟨⟨by decide +kernel, by decide +kernel⟩, List.mem_of_getElem? (i := 752) (by decide +kernel), List.mem_of_getElem? (i := 847) (by decide +kernel), List.mem_of_getElem? (i := 848) (by decide +kernel)⟩
theorem lw_p27 : lw_okq (⟨"ArrivalbooksModel", "lacks", "(II)I"⟩, 11) := ⟨⟨by decide +kernel, by decide +kernel⟩, List.mem_of_getElem? (i := 752) (by decide +kernel), List.mem_of_getElem? (i := 855) (by decide +kernel), List.mem_of_getElem? (i := 856) (by decide +kernel)⟩
theorem lw_p28 : lw_okq (⟨"ArrivalbooksModel", "isOpen", "(I)Z"⟩, 11) := ⟨⟨by decide +kernel, by decide +kernel⟩, List.mem_of_getElem? (i := 752) (by decide +kernel), List.mem_of_getElem? (i := 925) (by decide +kernel), List.mem_of_getElem? (i := 926) (by decide +kernel)⟩
theorem lw_p29 : lw_okq (⟨"ArrivalbooksModel", "canChange", "(I)Z"⟩, 11) := ⟨⟨by decide +kernel, by decide +kernel⟩, List.mem_of_getElem? (i := 752) (by decide +kernel), List.mem_of_getElem? (i := 937) (by decide +kernel), List.mem_of_getElem? (i := 938) (by decide +kernel)⟩
theorem lw_p30 : lw_okq (⟨"ArrivalbooksModel", "isPlace", "(II)Z"⟩, 11) := ⟨⟨by decide +kernel, by decide +kernel⟩, List.mem_of_getElem? (i := 752) (by decide +kernel), List.mem_of_getElem? (i := 969) (by decide +kernel), List.mem_of_getElem? (i := 970) (by decide +kernel)⟩
theorem lw_p31 : lw_okq (⟨"ArrivalbooksModel", "hasPair", "(III)Z"⟩, 11) := ⟨⟨by decide +kernel, by decide +kernel⟩, List.mem_of_getElem? (i := 752) (by decide +kernel), List.mem_of_getElem? (i := 985) (by decide +kernel), List.mem_of_getElem? (i := 986) (by decide +kernel)⟩
def lw_privs_2 : List (MethodName × Nat) := [(⟨"Arrivalbooks", "requirePlace", "(LArrivalbooks$Book;I)V"⟩, 9), (⟨"ArrivalbooksModel", "refuse", "(I)I"⟩, 11), (⟨"ArrivalbooksModel", "closes", "(II)V"⟩, 11), (⟨"ArrivalbooksModel", "told", "(I)I"⟩, 11), (⟨"ArrivalbooksModel", "denies", "(I)Z"⟩, 11), (⟨"ArrivalbooksModel", "isFull", "(II)Z"⟩, 11), (⟨"ArrivalbooksModel", "place", "(II)I"⟩, 11), (⟨"ArrivalbooksModel", "puts", "(III)V"⟩, 11), (⟨"ArrivalbooksModel", "comes", "(III)V"⟩, 11), (⟨"ArrivalbooksModel", "takes", "(II)V"⟩, 11), (⟨"ArrivalbooksModel", "says", "(Z)Z"⟩, 11), (⟨"ArrivalbooksModel", "lacks", "(II)I"⟩, 11), (⟨"ArrivalbooksModel", "isOpen", "(I)Z"⟩, 11), (⟨"ArrivalbooksModel", "canChange", "(I)Z"⟩, 11), (⟨"ArrivalbooksModel", "isPlace", "(II)Z"⟩, 11), (⟨"ArrivalbooksModel", "hasPair", "(III)Z"⟩, 11)]
theorem lw_r2 : ∀ q ∈ lw_privs_2, lw_okq q := List.forall_mem_cons.mpr ⟨lw_p16, List.forall_mem_cons.mpr ⟨lw_p17, List.forall_mem_cons.mpr ⟨lw_p18, List.forall_mem_cons.mpr ⟨lw_p19, List.forall_mem_cons.mpr ⟨lw_p20, List.forall_mem_cons.mpr ⟨lw_p21, List.forall_mem_cons.mpr ⟨lw_p22, List.forall_mem_cons.mpr ⟨lw_p23, List.forall_mem_cons.mpr ⟨lw_p24, List.forall_mem_cons.mpr ⟨lw_p25, List.forall_mem_cons.mpr ⟨lw_p26, List.forall_mem_cons.mpr ⟨lw_p27, List.forall_mem_cons.mpr ⟨lw_p28, List.forall_mem_cons.mpr ⟨lw_p29, List.forall_mem_cons.mpr ⟨lw_p30, List.forall_mem_cons.mpr ⟨lw_p31, fun _ h => absurd h List.not_mem_nil⟩⟩⟩⟩⟩⟩⟩⟩⟩⟩⟩⟩⟩⟩⟩⟩
theorem lw_p32 : lw_okq (⟨"ArrivalbooksModel", "writes", "(I)V"⟩, 11) := ⟨⟨by decide +kernel, by decide +kernel⟩, List.mem_of_getElem? (i := 752) (by decide +kernel), List.mem_of_getElem? (i := 1006) (by decide +kernel), List.mem_of_getElem? (i := 1007) (by decide +kernel)⟩
theorem lw_p33 : lw_okq (⟨"ArrivalbooksModel", "writesNumber", "(I)V"⟩, 11) := ⟨⟨by decide +kernel, by decide +kernel⟩, List.mem_of_getElem? (i := 752) (by decide +kernel), List.mem_of_getElem? (i := 1010) (by decide +kernel), List.mem_of_getElem? (i := 1011) (by decide +kernel)⟩
theorem lw_p34 : lw_okq (⟨"ArrivalbooksModel", "isTrue", "(I)Z"⟩, 11) := ⟨⟨by decide +kernel, by decide +kernel⟩, List.mem_of_getElem? (i := 752) (by decide +kernel), List.mem_of_getElem? (i := 1040) (by decide +kernel), List.mem_of_getElem? (i := 1041) (by decide +kernel)⟩
def lw_privs_3 : List (MethodName × Nat) := [(⟨"ArrivalbooksModel", "writes", "(I)V"⟩, 11), (⟨"ArrivalbooksModel", "writesNumber", "(I)V"⟩, 11), (⟨"ArrivalbooksModel", "isTrue", "(I)Z"⟩, 11)]
theorem lw_r3 : ∀ q ∈ lw_privs_3, lw_okq q := List.forall_mem_cons.mpr ⟨lw_p32, List.forall_mem_cons.mpr ⟨lw_p33, List.forall_mem_cons.mpr ⟨lw_p34, fun _ h => absurd h List.not_mem_nil⟩⟩⟩
def lw_privs : List (MethodName × Nat) := lw_privs_1 ++ (lw_privs_2 ++ (lw_privs_3))
def lw_tbl : List Cond := k2_sels lw_privs ++ tables_1
theorem lw_privs_ok : ∀ q ∈ lw_privs, lw_okq q := by
  show ∀ q ∈ lw_privs_1 ++ (lw_privs_2 ++ (lw_privs_3)), lw_okq q
  exact List.forall_mem_append.mpr ⟨lw_r1, List.forall_mem_append.mpr ⟨lw_r2, lw_r3⟩⟩
/-- the streams that the claim lets the run draw from -/
abbrev lw_cs : List Choice := [Jvm.Choice.named "NaN.bits"]
theorem lw_bits : nanBits ∈ lw_cs := by first | decide | exact List.mem_cons_self | simp [lw_cs, nanBits]
-- ===== end of PART A; then your names; then what follows =====
end
section
/-! ===== BEGIN words of one list among another's, by their places ===== -/
theorem goodIn_r {big : List Cond} (ws : List Cond) (ps : List Nat) (hp : ws = ps.filterMap (fun i => big[i]?)) (h : ws.all goodWord = true) : GoodIn big ws := by
  intro w hw
  have h1 := List.all_eq_true.mp h w hw
  rw [hp] at hw
  obtain ⟨i, -, hi⟩ := List.mem_filterMap.mp hw
  have hm : w ∈ big := by first | exact List.mem_of_getElem? hi | exact List.getElem?_mem hi
  exact ⟨hm, good_of_word h1⟩
theorem goodIn_app {big a b : List Cond} (ha : GoodIn big a) (hb : GoodIn big b) : GoodIn big (a ++ b) := fun w h => (List.mem_append.mp h).elim (ha w) (hb w)
theorem goodIn_ca {big a b : List Cond} {c : Cond} (ha : GoodIn big (c :: a)) (hb : GoodIn big b) : GoodIn big (c :: (a ++ b)) := fun w h => (List.mem_cons.mp h).elim (fun e => ha w (List.mem_cons.mpr (Or.inl e))) (fun h => (List.mem_append.mp h).elim (fun h => ha w (List.mem_cons.mpr (Or.inr h))) (hb w))
theorem goodIn_sub {big ws : List Cond} (hm : ∀ w ∈ ws, w ∈ big) (h : ws.all goodWord = true) : GoodIn big ws := fun w hw => ⟨hm w hw, good_of_word (List.all_eq_true.mp h w hw)⟩
/-! ===== END ===== -/

/-! ===== BEGIN exceptions that leave a method, and their catching by the caller (launches without stack traces) ===== -/
section VXA
/-! The laws vx_back, vx_callV, vx_callS, vx_callSW, vx_throw0, vx_throwS follow proofs of the library, with one case more: JvmDerived/Free/Laws.lean (Back.of_free), Shelf42/LK1.lean (callV, callS), Shelf/KitTraced.lean (throwNew0V, throwNewS). -/
/-- where a method has thrown q: the class by its name, the cell, what was written, the world -/
def vx_T (XC : String → State → State → Prop) (st : State) (q : Addr) (t : State) (mc ms : Nat) (free : Addr → Prop) : Prop :=
  ∃ (E : String) (ce : Cell) (L : List Loc), XC E st t ∧ t.heap[q]? = some ce ∧ ce.vm = .none ∧ st.vm.findClass E = some ce.cls ∧ st.WarmedH t.vm ∧ st.sameButNew ({ t with vm := st.vm } : State) L mc ms ∧ ∀ z ∈ L, free z.base
def vx_Q (Qc : Array Value → State → Outcome → State → Prop) (XC : String → State → State → Prop) (mc ms : Nat) (free : Addr → Prop) : Array Value → State → Outcome → State → Prop := fun a st o t =>
  (Qc a st o t ∧ ∃ L, FrameEnd st o t L mc ms ∧ ∀ q ∈ L, free q.base) ∨ ∃ q, o = .threw q ∧ vx_T XC st q t mc ms free
/-- a callee that returns or throws -/
def vx_Met (l : Launch) (y : MethodName) (ws : List Cond) (rm : Room) (Pc : Array Value → State → Prop) (Qc : Array Value → State → Outcome → State → Prop) (XC : String → State → State → Prop) (mc ms : Nat) (free : Addr → Prop) : Prop :=
  MetFree l y (headSpec ws rm) Pc (fun _ _ _ _ _ => True) (vx_Q Qc XC mc ms free)
def vx_Post (XC : String → State → State → Prop) (mc ms : Nat) (free : Addr → Prop) : Pt → Array Value → Addr → Pt → Prop := fun A a q B =>
  ∃ (g : JFrame) (mk : MethodId) (t : State) (L : List Loc) (E : String) (ce : Cell), B.U.heap = t.heap ∧ B.U.vm = t.vm ∧ XC E (A.U.calling g mk a) t ∧ t.heap[q]? = some ce ∧ ce.vm = .none ∧ A.U.vm.findClass E = some ce.cls ∧ B.locs = A.locs ++ L ∧ (∀ z ∈ L, free z.base) ∧ B.cells = A.cells + mc ∧ B.slots = A.slots + ms
def vx_Back (l : Launch) (R : Room) (p : Program) (e : Env) (below : List Frame) (s : State) (sargs : Array Value) (y : MethodName) (len W9 : Nat)
    (Pre : Pt → Array Value → Prop) (Post : Pt → Array Value → Option Value → Pt → Prop) (PostX : Pt → Array Value → Addr → Pt → Prop) : Prop :=
  ∀ (m : MethodId) (meth : Method) (c : Code) (A : Pt) (g : JFrame) (ig : Instr) (mk : MethodId) (a : Array Value),
    Stand p l e R s m sargs below meth c A.U A.locs A.cells A.slots → g.method = m → g.locals.size = c.maxLocals → decode c.code g.pc = .ok (ig, len) →
    2 * g.monitorRoom + (g.stack.map fun v => v.category).sum ≤ W9 → A.U.methodNamed? y = some mk → Pre A a →
    (∃ (v : Option Value) (B : Pt), Stand p l e R s m sargs below meth c B.U B.locs B.cells B.slots ∧ Post A a v B ∧
      Steps p.tables e below (doInvoke e (A.U.setTop g) [] mk a).1 (B.U.setTop { g with pc := g.pc + len, stack := v.toList ++ g.stack })) ∨
    (∃ (q : Addr) (B : Pt), Stand p l e R s m sargs below meth c B.U B.locs B.cells B.slots ∧ PostX A a q B ∧
      Steps p.tables e below (doInvoke e (A.U.setTop g) [] mk a).1 ((B.U.setTop g).pushFrame (.throwing q)))
section Payer
variable {l : Launch} {R : Room} {p : Program} {e : Env} {below : List Frame} {s : State} {sargs : Array Value} {y : MethodName} {len W9 : Nat}
theorem vx_back {ws : List Cond} {rm : Room} {Pc : Array Value → State → Prop} {Qc : Array Value → State → Outcome → State → Prop} {XC : String → State → State → Prop} {mc ms : Nat} {free : Addr → Prop} {bytes : ByteArray} {maxL : Nat} {ret : Option FieldType}
    (hM : vx_Met l y ws rm Pc Qc XC mc ms free) (hblind : FrameBlind Pc) (hrc : rm.cells = mc) (hrs : rm.slots = ms)
    (hframes : rm.frames + 1 ≤ R.frames) (hlocals : W9 + (maxL + 11) + rm.locals ≤ R.locals)
    (hws : ∀ w ∈ ws, ∀ a' U, s.WarmedH U.vm → w.before a' U = true) (hcode : Cond.code y bytes maxL ret ∈ ws) (hinit : ∀ a' U, s.WarmedH U.vm → (Cond.initialized y.cls).before a' U = true) :
    vx_Back l R p e below s sargs y len W9 (PreOf R mc ms Pc) (PostOf Qc mc ms free) (vx_Post XC mc ms free) := by
  intro m meth c A g ig mk a X hg hsize hdg hW hn hp
  have h1 : (headSpec ws rm).pre.before a A.U = true := atoms_intro fun w hw => hws w hw _ _ X.warmed
  have h2 : (Cond.code y bytes maxL ret).before a A.U = true := hws _ hcode _ _ X.warmed
  have h3 : (Cond.initialized y.cls).before a A.U = true := hinit _ _ X.warmed
  have h4 : A.cells + (headSpec ws rm).room.cells ≤ R.cells := by rw [show (headSpec ws rm).room.cells = mc from hrc]; exact hp.1
  have h5 : A.slots + (headSpec ws rm).room.slots ≤ R.slots := by rw [show (headSpec ws rm).room.slots = ms from hrs]; exact hp.2.1
  have hPc : Pc a (A.U.calling g mk a) := hblind _ _ _ _ hp.2.2
  obtain ⟨U, Ls, c0, s0⟩ := A
  dsimp only [Pt.U, Pt.locs, Pt.cells, Pt.slots] at h1 h2 h3 h4 h5 X hn hPc ⊢
  obtain ⟨methY, cY, hmY, hcY, -, hlY, -, -, -, -⟩ := Cond.code_spec hn h2
  obtain ⟨kY, hkY, -⟩ := className_of_methodNamed hn
  have hinitY : kY.init = .initialized := Cond.initialized_spec (findClass_of_methodNamed hn) hkY h3
  have h : At U g.method c below := by rw [hg]; exact X.here
  have hlocals9 : W9 + (maxL + 11) + (headSpec ws rm).room.locals ≤ R.locals := hlocals
  have happ : (headSpec ws rm).appliesLoose y e.platform (U.calling g mk a) = true :=
    Spec.appliesLoose_calling (g := g) h hdg hn hkY hinitY
      (X.room_calling (g := g) (R' := (headSpec ws rm).room) hsize hmY hcY hframes (by rw [hlY]; omega) h4 h5) h1
  obtain ⟨mid, hmid⟩ := h.above
  have hfr : (U.setTop g).frames = (.java g :: mid) ++ below := by rw [State.frames_setTop' g h.top, hmid]; rfl
  obtain ⟨o, s₂, hsteps, -, hend, hq⟩ := Steps.callFree hM p X.admits X.cas X.clock (acts := []) hfr happ hPc trivial
  have hq' : vx_Q Qc XC mc ms free a (U.calling g mk a) o s₂ := hq
  rw [State.frames_setTop' g h.top] at hend
  obtain ⟨g₀, hg0⟩ := Option.isSome_iff_exists.mp h.top
  obtain ⟨r, hr⟩ := State.topJava?_eq_some.mp hg0
  have hr' : (({ U with heap := s₂.heap, slotsUsed := s₂.slotsUsed } : State).setVm s₂.vm).frames = .java g₀ :: r := hr
  rcases hq' with ⟨hqc, L, hfe, hL⟩ | ⟨q, rfl, E, ce, L, hx, hce, hcv, hcl, hW₂, hsm, hL⟩
  · obtain ⟨⟨v, rfl⟩, hW₂, e2, q2, q3, q4, q5, q6⟩ := id hfe
    have e3 : s₂ = ({ (U.calling g mk a).setFrames s₂.frames with heap := s₂.heap, slotsUsed := s₂.slotsUsed } : State).setVm s₂.vm := by
      have : s₂ = ({ s₂ with vm := (U.calling g mk a).vm } : State).setVm s₂.vm := rfl
      rw [e2] at this
      exact this
    obtain ⟨c₂, i₂, len₂, hc₂, hd₂, hf₂⟩ := hend
    have hW' : U.WarmedH s₂.vm := hW₂
    have hcc : c₂ = c := by
      have h1 : s₂.code? g.method = U.code? g.method := by
        rw [State.code?_eq, State.code?_eq, hW'.alike.method?]
      exact Option.some.inj (hc₂.symm.trans (h1.trans h.code))
    subst hcc
    have hlen : len₂ = len := by rw [hdg] at hd₂; cases hd₂; rfl
    subst hlen
    have hs₂ : s₂ = (({ U with heap := s₂.heap, slotsUsed := s₂.slotsUsed } : State).setVm s₂.vm).setTop { g with pc := g.pc + len₂, stack := v.toList ++ g.stack } := by
      refine e3.trans ?_
      rw [hf₂, State.calling_eq h.top, State.setFrames_setFrames, State.setTop_of_frames _ hr', hr]
      rfl
    have hsame : U.sameButNew ({ U with heap := s₂.heap, slotsUsed := s₂.slotsUsed } : State) L mc ms := by
      refine ⟨?_, q2, q3, q4, q5, q6⟩
      obtain ⟨t, ht, -⟩ := State.frames_cons hr
      show ({ U with heap := s₂.heap, slotsUsed := s₂.slotsUsed } : State) = { U.setFrames U.frames with heap := s₂.heap, slotsUsed := s₂.slotsUsed }
      rw [State.setFrames_self ht]
    subst hg
    refine Or.inl ⟨v, ⟨(({ U with heap := s₂.heap, slotsUsed := s₂.slotsUsed } : State).setVm s₂.vm), Ls ++ L, c0 + mc, s0 + ms⟩,
      ⟨X.admits, X.cas, X.clock, X.frames, X.room, X.hears, X.method, X.code, (X.here.setHeapUsed s₂.heap s₂.slotsUsed).setVm hW'.alike, X.tail, State.WarmedH.trans X.warmed hW', X.limits, X.bytes, X.same.trans (hsame.setVm s.vm)⟩,
      ⟨g, mk, s₂, L, rfl, rfl, hqc, rfl, hL, rfl, rfl⟩, ?_⟩
    show Steps p.tables e below _ ((({ U with heap := s₂.heap, slotsUsed := s₂.slotsUsed } : State).setVm s₂.vm).setTop { g with pc := g.pc + len₂, stack := v.toList ++ g.stack })
    rw [← hs₂]
    exact hsteps
  · obtain ⟨e2, q2, q3, q4, q5, q6⟩ := id hsm
    have e3 : s₂ = ({ (U.calling g mk a).setFrames s₂.frames with heap := s₂.heap, slotsUsed := s₂.slotsUsed } : State).setVm s₂.vm := by
      have : s₂ = ({ s₂ with vm := (U.calling g mk a).vm } : State).setVm s₂.vm := rfl
      rw [e2] at this
      exact this
    have hf₂ : s₂.frames = .throwing q :: .java g :: U.frames.tail := hend
    have hW' : U.WarmedH s₂.vm := hW₂
    have hs₂ : s₂ = ((({ U with heap := s₂.heap, slotsUsed := s₂.slotsUsed } : State).setVm s₂.vm).setTop g).pushFrame (.throwing q) := by
      refine e3.trans ?_
      rw [hf₂, State.calling_eq h.top, State.setFrames_setFrames, State.pushFrame, State.frames_setTop _ hr', State.setTop_of_frames _ hr', State.setFrames_setFrames, hr]
      rfl
    have hsame : U.sameButNew ({ U with heap := s₂.heap, slotsUsed := s₂.slotsUsed } : State) L mc ms := by
      refine ⟨?_, q2, q3, q4, q5, q6⟩
      obtain ⟨t, ht, -⟩ := State.frames_cons hr
      show ({ U with heap := s₂.heap, slotsUsed := s₂.slotsUsed } : State) = { U.setFrames U.frames with heap := s₂.heap, slotsUsed := s₂.slotsUsed }
      rw [State.setFrames_self ht]
    subst hg
    refine Or.inr ⟨q, ⟨(({ U with heap := s₂.heap, slotsUsed := s₂.slotsUsed } : State).setVm s₂.vm), Ls ++ L, c0 + mc, s0 + ms⟩,
      ⟨X.admits, X.cas, X.clock, X.frames, X.room, X.hears, X.method, X.code, (X.here.setHeapUsed s₂.heap s₂.slotsUsed).setVm hW'.alike, X.tail, State.WarmedH.trans X.warmed hW', X.limits, X.bytes, X.same.trans (hsame.setVm s.vm)⟩,
      ⟨g, mk, s₂, L, E, ce, rfl, rfl, hx, hce, hcv, hcl, rfl, hL, rfl, rfl⟩, ?_⟩
    show Steps p.tables e below _ (((({ U with heap := s₂.heap, slotsUsed := s₂.slotsUsed } : State).setVm s₂.vm).setTop g).pushFrame (.throwing q))
    rw [← hs₂]
    exact hsteps
end Payer
section Calls
variable {p : Program} {l : Launch} {e : Env} {R : Room} {s : State} {m : MethodId} {args : Array Value} {below : List Frame} {meth : Method} {c : Code} {T : State} {locs : List Loc} {cells slots : Nat}
theorem vx_callV (X : Stand p l e R s m args below meth c T locs cells slots) (hexec : p.tables.exec = Jvm.exec) {own C : String} {index : Nat} {y : MethodName} {bytes : ByteArray} {maxL : Nat} {ret : Option FieldType}
    (hown : s.vm.findClass own = some m.cls) (hlink : (Cond.methodLink own index y).before args s = true) (hinst : (Cond.instanceMethod y).before args s = true) (hsel : (Cond.selects C y y).before args s = true)
    (hcode : (Cond.code y bytes maxL ret).before args s = true) (hy : y.cls ≠ "java/lang/invoke/MethodHandle" ∧ y.cls ≠ "java/lang/invoke/VarHandle")
    {W9 : Nat} {Pre : Pt → Array Value → Prop} {Post : Pt → Array Value → Option Value → Pt → Prop} {PostX : Pt → Array Value → Addr → Pt → Prop} (hK : vx_Back l R p e below s args y 3 W9 Pre Post PostX)
    {b : Addr} {cellB : Cell} (hcell : T.heap[b]? = some cellB) (hobj : cellB.vm.isStatics = false) (hcls : s.vm.findClass C = some cellB.cls)
    {g : JFrame} (hg : g.method = m) (hsize : g.locals.size = c.maxLocals) {argsL rest : List Value} (hlen : ∀ sig, parseMethodDescriptor y.desc = some sig → argsL.length = sig.parameters.length)
    (hstack : g.stack = argsL.reverse ++ .ref b :: rest) (hW : 2 * g.monitorRoom + (rest.map fun v => v.category).sum ≤ W9) (hdg : decode c.code g.pc = .ok (.invokevirtual index, 3))
    (hpre : ∀ vm₁, s.WarmedH vm₁ → Pre ⟨T.setVm vm₁, locs, cells, slots⟩ (Value.ref b :: argsL).toArray) :
    (∃ (v : Option Value) (vm₁ : Vm) (B : Pt), s.WarmedH vm₁ ∧ Stand p l e R s m args below meth c B.U B.locs B.cells B.slots ∧ Post ⟨T.setVm vm₁, locs, cells, slots⟩ (Value.ref b :: argsL).toArray v B ∧
      ∀ target, Steps p.tables e below (B.U.setTop { g with pc := g.pc + 3, stack := v.toList ++ rest }) target → Steps p.tables e below (T.setTop g) target) ∨
    (∃ (q : Addr) (vm₁ : Vm) (B : Pt), s.WarmedH vm₁ ∧ Stand p l e R s m args below meth c B.U B.locs B.cells B.slots ∧ PostX ⟨T.setVm vm₁, locs, cells, slots⟩ (Value.ref b :: argsL).toArray q B ∧
      Steps p.tables e below (T.setTop g) ((B.U.setTop { g with stack := rest }).pushFrame (.throwing q))) := by
  obtain ⟨mk, methM, hnamed, hmethM, hstM, habM⟩ := Cond.instanceMethod_spec hinst
  obtain ⟨methM', cM, hmethM', -, -, -, -, -, -, hsigM⟩ := Cond.code_spec hnamed hcode
  cases hmethM.symm.trans hmethM'
  obtain ⟨c2, r2, m2, q1, q2, q3, q4, kP, hkP, hkPi⟩ := Cond.selects_spec hsel
  cases hcls.symm.trans q1
  cases (State.methodFound?_of_named hnamed hy).symm.trans q2
  cases hnamed.symm.trans q3
  have hselP : selectMethod e.platform s.vm cellB.cls mk = .method mk := by rw [Launch.admits_selectMethod X.admits]; exact q4
  obtain ⟨vm₁, X₁, hstep₁⟩ := X.invokevirtual hexec hown hlink hnamed hmethM hstM hkP hkPi hy (a := b) (cell := cellB) hcell
    (fun z h => by rw [h] at hobj; cases hobj) hselP hmethM habM hkP hkPi (g := g) hg (argsL := argsL) (rest := rest) (hlen _ hsigM) hstack hdg
  rcases hK m meth c ⟨T.setVm vm₁, locs, cells, slots⟩ { g with stack := rest } (.invokevirtual index) mk (Value.ref b :: argsL).toArray X₁ hg hsize hdg hW (X₁.named hnamed) (hpre vm₁ X₁.warmed) with ⟨v, B, X', hpost, hsteps⟩ | ⟨q, B, X', hpost, hsteps⟩
  · exact Or.inl ⟨v, vm₁, B, X₁.warmed, X', hpost, fun target h => hstep₁ _ fun acts => by rw [doInvoke_state]; exact hsteps.trans h⟩
  · exact Or.inr ⟨q, vm₁, B, X₁.warmed, X', hpost, hstep₁ _ fun acts => by rw [doInvoke_state]; exact hsteps⟩
theorem vx_callS (X : Stand p l e R s m args below meth c T locs cells slots) (hexec : p.tables.exec = Jvm.exec) {own : String} {index : Nat} {y : MethodName} {bytes : ByteArray} {maxL : Nat} {ret : Option FieldType}
    (hown : s.vm.findClass own = some m.cls) (hlink : (Cond.methodLink own index y).before args s = true) (hstat : (Cond.static y).before args s = true) (hinit : (Cond.initialized y.cls).before args s = true)
    (hcode : (Cond.code y bytes maxL ret).before args s = true) (hy : y.cls ≠ "java/lang/invoke/MethodHandle" ∧ y.cls ≠ "java/lang/invoke/VarHandle")
    {W9 : Nat} {Pre : Pt → Array Value → Prop} {Post : Pt → Array Value → Option Value → Pt → Prop} {PostX : Pt → Array Value → Addr → Pt → Prop} (hK : vx_Back l R p e below s args y 3 W9 Pre Post PostX)
    {g : JFrame} (hg : g.method = m) (hsize : g.locals.size = c.maxLocals) {argsL rest : List Value} (hlen : ∀ sig, parseMethodDescriptor y.desc = some sig → argsL.length = sig.parameters.length)
    (hstack : g.stack = argsL.reverse ++ rest) (hW : 2 * g.monitorRoom + (rest.map fun v => v.category).sum ≤ W9) (hdg : decode c.code g.pc = .ok (.invokestatic index, 3))
    (hpre : ∀ vm₁, s.WarmedH vm₁ → Pre ⟨T.setVm vm₁, locs, cells, slots⟩ argsL.toArray) :
    (∃ (v : Option Value) (vm₁ : Vm) (B : Pt), s.WarmedH vm₁ ∧ Stand p l e R s m args below meth c B.U B.locs B.cells B.slots ∧ Post ⟨T.setVm vm₁, locs, cells, slots⟩ argsL.toArray v B ∧
      ∀ target, Steps p.tables e below (B.U.setTop { g with pc := g.pc + 3, stack := v.toList ++ rest }) target → Steps p.tables e below (T.setTop g) target) ∨
    (∃ (q : Addr) (vm₁ : Vm) (B : Pt), s.WarmedH vm₁ ∧ Stand p l e R s m args below meth c B.U B.locs B.cells B.slots ∧ PostX ⟨T.setVm vm₁, locs, cells, slots⟩ argsL.toArray q B ∧
      Steps p.tables e below (T.setTop g) ((B.U.setTop { g with stack := rest }).pushFrame (.throwing q))) := by
  obtain ⟨mk, hnamed⟩ := Cond.code_named hcode
  obtain ⟨methM, cM, hmethM, -, -, -, -, -, -, hsigM⟩ := Cond.code_spec hnamed hcode
  have hstatic : methM.isStatic = true := Cond.static_spec hnamed hmethM hstat
  obtain ⟨kP, hkP, -⟩ := className_of_methodNamed hnamed
  have hinitP : kP.init = .initialized := Cond.initialized_spec (findClass_of_methodNamed hnamed) hkP hinit
  obtain ⟨vm₁, X₁, hstep₁⟩ := X.invokestatic hexec hown hlink hnamed hmethM hstatic hkP hinitP hy (g := g) hg (argsL := argsL) (rest := rest) (hlen _ hsigM) hstack hdg
  rcases hK m meth c ⟨T.setVm vm₁, locs, cells, slots⟩ { g with stack := rest } (.invokestatic index) mk argsL.toArray X₁ hg hsize hdg hW (X₁.named hnamed) (hpre vm₁ X₁.warmed) with ⟨v, B, X', hpost, hsteps⟩ | ⟨q, B, X', hpost, hsteps⟩
  · exact Or.inl ⟨v, vm₁, B, X₁.warmed, X', hpost, fun target h => hstep₁ _ fun acts => by rw [doInvoke_state]; exact hsteps.trans h⟩
  · exact Or.inr ⟨q, vm₁, B, X₁.warmed, X', hpost, hstep₁ _ fun acts => by rw [doInvoke_state]; exact hsteps⟩
end Calls
theorem vx_cls {s : State} {T : State} {vm₁ : Vm} {E : String} {k : ClassId} (hW : s.WarmedH vm₁) (h : (T.setVm vm₁).vm.findClass E = some k) : s.vm.findClass E = some k := by
  have h1 : vm₁.findClass E = some k := h
  rw [hW.alike.findClass] at h1
  exact h1
/-- the method's frame g, with q thrown over it -/
def vx_W (p : Program) (l : Launch) (e : Env) (R : Room) (s : State) (m : MethodId) (args : Array Value) (below : List Frame) (meth : Method) (c : Code) (H : Heap) (locs : List Loc) (cells slots : Nat) (Q : State → Prop) (g : JFrame) (q : Addr) : Prop :=
  ∀ T : State, T.heap = H → Stand p l e R s m args below meth c T locs cells slots → ∃ t, Steps p.tables e below ((T.setTop g).pushFrame (.throwing q)) t ∧ Q t
def vx_Run (p : Program) (l : Launch) (e : Env) (R : Room) (s : State) (m : MethodId) (args : Array Value) (below : List Frame) (meth : Method) (c : Code) (H : Heap) (locs : List Loc) (cells slots mc ms : Nat) (g : JFrame) (rest : List Value) (Qa : State → Outcome → State → Prop) (XC : String → State → State → Prop) (free : Addr → Prop) : Prop :=
  ∀ T : State, T.heap = H → Stand p l e R s m args below meth c T locs cells slots →
    (∃ (v : Option Value) (st₀ t T' : State) (L : List Loc), st₀.heap = H ∧ Stand p l e R s m args below meth c T' (locs ++ L) (cells + mc) (slots + ms) ∧ (∀ q ∈ L, free q.base) ∧ T'.heap = t.heap ∧ T'.vm = t.vm ∧ Qa st₀ (.returned v) t ∧
      Goes p e below T g T' { g with pc := g.pc + 3, stack := v.toList ++ rest }) ∨
    (∃ (q : Addr) (st₀ t T' : State) (L : List Loc) (E : String) (ce : Cell), st₀.heap = H ∧ Stand p l e R s m args below meth c T' (locs ++ L) (cells + mc) (slots + ms) ∧ (∀ z ∈ L, free z.base) ∧ T'.heap = t.heap ∧ T'.vm = t.vm ∧ XC E st₀ t ∧ t.heap[q]? = some ce ∧ ce.vm = .none ∧ s.vm.findClass E = some ce.cls ∧
      Steps p.tables e below (T.setTop g) ((T'.setTop { g with stack := rest }).pushFrame (.throwing q)))
def vx_X {S : Type} (px : S → Prop) (B : String → S → State → Prop) (A : Nat → Prop) : String → State → State → Prop := fun E st t => ∃ u : S, px u ∧ B E u t ∧ va_F A st t
section Runs
variable {p : Program} {l : Launch} {e : Env} {R : Room} {s : State} {m : MethodId} {args : Array Value} {below : List Frame} {meth : Method} {c : Code} {H : Heap} {locs : List Loc} {cells slots : Nat}
variable {y : MethodName} {bytes cc : ByteArray} {maxL nL mc ms n index : Nat} {ret : Option FieldType} {ws : List Cond} {rm : Room} {Pc : Array Value → State → Prop} {Qc : Array Value → State → Outcome → State → Prop} {XC : String → State → State → Prop} {free : Addr → Prop} {Ts : List Cond} {own C : String} {b : Addr} {As rest : List Value} {g : JFrame}
theorem vx_callBack (cb : CallB R s args own index y bytes maxL ret ws rm mc ms n) (hM : vx_Met l y ws rm Pc Qc XC mc ms free) (hbl : FrameBlind Pc) : vx_Back l R p e below s args y 3 8 (PreOf R mc ms Pc) (PostOf Qc mc ms free) (vx_Post XC mc ms free) := by
  obtain ⟨hrc, hrs, hfr, hlo, hws, hcw, -, hini, -⟩ := cb
  exact vx_back (bytes := bytes) (maxL := maxL) (ret := ret) hM hbl hrc hrs hfr hlo hws hcw (fun a' U hW => word_at hW (Or.inl (by first | rfl | simp [Cond.onTables, Cond.keeps, Cond.steady])) hini)
theorem vx_runV (S : CallFix p m c cc nL s args Ts own) (hM : vx_Met l y ws rm Pc Qc XC mc ms free) (cw : CallW R s args own C index y bytes maxL ret ws rm mc ms n) (hp : PreV s H C b Pc As)
    (hg : g.method = m) (hn : As.length = n) (hsize : g.locals.size = nL) (hstack : g.stack = As.reverse ++ .ref b :: rest) (hW : 2 * g.monitorRoom + (rest.map fun v => v.category).sum ≤ 8) (hdg : decode cc g.pc = .ok (.invokevirtual index, 3)) (hf : cells + mc ≤ R.cells ∧ slots + ms ≤ R.slots) :
    vx_Run p l e R s m args below meth c H locs cells slots mc ms g rest (Qc (Value.ref b :: As).toArray) XC free := by
  have hK : vx_Back l R p e below s args y 3 8 (PreOf R mc ms Pc) (PostOf Qc mc ms free) (vx_Post XC mc ms free) := vx_callBack cw.1 hM hp.1
  obtain ⟨⟨-, -, -, -, -, -, hcode, -, hy, hlen, hl⟩, hin, hse⟩ := cw
  obtain ⟨hx, hb, hml, ho, -⟩ := S
  obtain ⟨-, ⟨cellB, hcB, hoB, hclB⟩, hPc⟩ := hp
  intro T hT X
  rcases vx_callV X hx (C := C) (bytes := bytes) (maxL := maxL) (ret := ret) ho hl hin hse hcode hy hK (by rw [hT]; exact hcB) hoB hclB hg (hsize.trans hml.symm) (argsL := As) (rest := rest) (fun sig h => hn.trans (hlen sig h)) hstack hW (by rw [hb]; exact hdg)
    (fun vm₁ hW₁ => ⟨hf.1, hf.2, hPc (T.setVm vm₁) hT hW₁⟩) with ⟨v, vm₁, ⟨U', l2, c2, s2⟩, hW₁, X', ⟨g', mk, t, L, e1, e2, hq, h1, hL, h2, h3⟩, st⟩ | ⟨q, vm₁, ⟨U', l2, c2, s2⟩, hW₁, X', ⟨g', mk, t, L, E, ce, e1, e2, hq, hce, hcv, hcl, h1, hL, h2, h3⟩, st⟩
  · dsimp only [Pt.U, Pt.locs, Pt.cells, Pt.slots] at X' e1 e2 h1 h2 h3 st
    subst h1; subst h2; subst h3
    exact Or.inl ⟨v, (T.setVm vm₁).calling g' mk (Value.ref b :: As).toArray, t, U', L, hT, X', hL, e1, e2, hq, st⟩
  · dsimp only [Pt.U, Pt.locs, Pt.cells, Pt.slots] at X' e1 e2 h1 h2 h3 st hcl
    subst h1; subst h2; subst h3
    exact Or.inr ⟨q, (T.setVm vm₁).calling g' mk (Value.ref b :: As).toArray, t, U', L, E, ce, hT, X', hL, e1, e2, hq, hce, hcv, vx_cls hW₁ hcl, st⟩
theorem vx_runS (S : CallFix p m c cc nL s args Ts own) (hM : vx_Met l y ws rm Pc Qc XC mc ms free) (cw : CallB R s args own index y bytes maxL ret ws rm mc ms n ∧ (Cond.static y).before args s = true) (hp : PreS s H Pc As)
    (hg : g.method = m) (hn : As.length = n) (hsize : g.locals.size = nL) (hstack : g.stack = As.reverse ++ rest) (hW : 2 * g.monitorRoom + (rest.map fun v => v.category).sum ≤ 8) (hdg : decode cc g.pc = .ok (.invokestatic index, 3)) (hf : cells + mc ≤ R.cells ∧ slots + ms ≤ R.slots) :
    vx_Run p l e R s m args below meth c H locs cells slots mc ms g rest (Qc As.toArray) XC free := by
  have hK : vx_Back l R p e below s args y 3 8 (PreOf R mc ms Pc) (PostOf Qc mc ms free) (vx_Post XC mc ms free) := vx_callBack cw.1 hM hp.1
  obtain ⟨⟨-, -, -, -, -, -, hcode, hini, hy, hlen, hl⟩, hstt⟩ := cw
  obtain ⟨hx, hb, hml, ho, -⟩ := S
  intro T hT X
  rcases vx_callS X hx (bytes := bytes) (maxL := maxL) (ret := ret) ho hl hstt hini hcode hy hK hg (hsize.trans hml.symm) (argsL := As) (rest := rest) (fun sig h => hn.trans (hlen sig h)) hstack hW (by rw [hb]; exact hdg)
    (fun vm₁ hW₁ => ⟨hf.1, hf.2, hp.2 (T.setVm vm₁) hT hW₁⟩) with ⟨v, vm₁, ⟨U', l2, c2, s2⟩, hW₁, X', ⟨g', mk, t, L, e1, e2, hq, h1, hL, h2, h3⟩, st⟩ | ⟨q, vm₁, ⟨U', l2, c2, s2⟩, hW₁, X', ⟨g', mk, t, L, E, ce, e1, e2, hq, hce, hcv, hcl, h1, hL, h2, h3⟩, st⟩
  · dsimp only [Pt.U, Pt.locs, Pt.cells, Pt.slots] at X' e1 e2 h1 h2 h3 st
    subst h1; subst h2; subst h3
    exact Or.inl ⟨v, (T.setVm vm₁).calling g' mk As.toArray, t, U', L, hT, X', hL, e1, e2, hq, st⟩
  · dsimp only [Pt.U, Pt.locs, Pt.cells, Pt.slots] at X' e1 e2 h1 h2 h3 st hcl
    subst h1; subst h2; subst h3
    exact Or.inr ⟨q, (T.setVm vm₁).calling g' mk As.toArray, t, U', L, E, ce, hT, X', hL, e1, e2, hq, hce, hcv, vx_cls hW₁ hcl, st⟩
end Runs
section Rows
variable {p : Program} {l : Launch} {e : Env} {R : Room} {s : State} {m : MethodId} {args : Array Value} {below : List Frame} {meth : Method} {c : Code} {H : Heap} {locs : List Loc} {cells slots : Nat} {Q : State → Prop}
variable {mc ms : Nat} {free : Addr → Prop} {A0 A1 : Nat → Prop} {H0 : Heap} {a : Array Value} {pc : Nat} {ls : Array Slot} {st0 rest : List Value}
theorem vx_keep {st₀ t T' : State} {L : List Loc} (h0 : st₀.heap = H) (e1 : T'.heap = t.heap) (hS : va_S A0 H0 H locs) (hA : ∀ q, q < H.size → A1 q → A0 q) (hf : ∀ q, free q → A0 q) (hL : ∀ q ∈ L, free q.base) (hF : va_F A1 st₀ t) :
    H.size ≤ T'.heap.size ∧ (∀ q : Nat, q < H.size → ¬ A1 q → T'.heap[q]? = H[q]?) ∧ va_S A0 H0 T'.heap (locs ++ L) := by
  obtain ⟨hz, hk⟩ := hF
  rw [h0] at hz hk
  exact ⟨by rw [e1]; exact hz, fun q h1 h2 => by rw [e1]; exact hk q h1 h2,
    ⟨Nat.le_trans hS.1 (by rw [e1]; exact hz), fun q h1 h2 => by rw [e1, hk q (Nat.lt_of_lt_of_le h1 hS.1) (fun z => h2 (hA q (Nat.lt_of_lt_of_le h1 hS.1) z))]; exact hS.2.1 q h1 h2, fun q hq => by
      rcases List.mem_append.mp hq with h | h
      · exact hS.2.2 q h
      · exact hf _ (hL q h)⟩⟩
theorem vx_calli {S SX : Type} {post : Int32 → S → Prop} {px : SX → Prop} {B : S → State → Prop} {BX : String → SX → State → Prop} {AX : Nat → Prop} (hr : vx_Run p l e R s m args below meth c H locs cells slots mc ms (F0 m pc ls st0) rest (va_Qi post B A1 a) (vx_X px BX AX) free) (hS : va_S A0 H0 H locs) (hA : ∀ q, q < H.size → A1 q → A0 q) (hf : ∀ q, free q → A0 q) (hAX : ∀ q, q < H.size → AX q → A0 q)
    (kx : ∀ (E : String) (ce : Cell) (q9 : Addr) (u : SX) (t : State) (H1 : Heap) (locs1 : List Loc), t.heap = H1 → s.vm.Alike t.vm → px u → BX E u t → H.size ≤ H1.size → (∀ q : Nat, q < H.size → ¬ AX q → H1[q]? = H[q]?) → va_S A0 H0 H1 locs1 → H1[q9]? = some ce → ce.vm = .none → s.vm.findClass E = some ce.cls → vx_W p l e R s m args below meth c H1 locs1 (cells + mc) (slots + ms) Q (F0 m pc ls rest) q9)
    (kk : ∀ (r : Int32) (u : S) (t : State) (H1 : Heap) (locs1 : List Loc), t.heap = H1 → s.vm.Alike t.vm → post r u → B u t → H.size ≤ H1.size → (∀ q : Nat, q < H.size → ¬ A1 q → H1[q]? = H[q]?) → va_S A0 H0 H1 locs1 → W p l e R s m args below meth c H1 locs1 (cells + mc) (slots + ms) Q (F0 m (pc + 3) ls (.int r :: rest))) : W p l e R s m args below meth c H locs cells slots Q (F0 m pc ls st0) := by
  intro T hT X
  rcases hr T hT X with ⟨v, st₀, t, T', L, h0, X', hL, e1, e2, ⟨⟨r, u, hv, hp, hb⟩, hF⟩, st⟩ | ⟨q, st₀, t, T', L, E, ce, h0, X', hL, e1, e2, ⟨u, hp, hb, hF⟩, hce, hcv, hcl, st⟩
  · cases hv
    obtain ⟨k1, k2, k3⟩ := vx_keep h0 e1 hS hA hf hL hF
    obtain ⟨t2, a1, b1⟩ := kk r u t T'.heap (locs ++ L) e1.symm (by rw [← e2]; exact X'.warmed.alike) hp hb k1 k2 k3 T' rfl X'
    exact ⟨t2, st t2 a1, b1⟩
  · obtain ⟨k1, k2, k3⟩ := vx_keep h0 e1 hS hAX hf hL hF
    obtain ⟨t2, a1, b1⟩ := kx E ce q u t T'.heap (locs ++ L) e1.symm (by rw [← e2]; exact X'.warmed.alike) hp hb k1 k2 k3 (by rw [e1]; exact hce) hcv hcl T' rfl X'
    exact ⟨t2, st.trans a1, b1⟩
theorem vx_calll {S SX : Type} {post : Int64 → S → Prop} {px : SX → Prop} {B : S → State → Prop} {BX : String → SX → State → Prop} {AX : Nat → Prop} (hr : vx_Run p l e R s m args below meth c H locs cells slots mc ms (F0 m pc ls st0) rest (va_Ql post B A1 a) (vx_X px BX AX) free) (hS : va_S A0 H0 H locs) (hA : ∀ q, q < H.size → A1 q → A0 q) (hf : ∀ q, free q → A0 q) (hAX : ∀ q, q < H.size → AX q → A0 q)
    (kx : ∀ (E : String) (ce : Cell) (q9 : Addr) (u : SX) (t : State) (H1 : Heap) (locs1 : List Loc), t.heap = H1 → s.vm.Alike t.vm → px u → BX E u t → H.size ≤ H1.size → (∀ q : Nat, q < H.size → ¬ AX q → H1[q]? = H[q]?) → va_S A0 H0 H1 locs1 → H1[q9]? = some ce → ce.vm = .none → s.vm.findClass E = some ce.cls → vx_W p l e R s m args below meth c H1 locs1 (cells + mc) (slots + ms) Q (F0 m pc ls rest) q9)
    (kk : ∀ (r : Int64) (u : S) (t : State) (H1 : Heap) (locs1 : List Loc), t.heap = H1 → s.vm.Alike t.vm → post r u → B u t → H.size ≤ H1.size → (∀ q : Nat, q < H.size → ¬ A1 q → H1[q]? = H[q]?) → va_S A0 H0 H1 locs1 → W p l e R s m args below meth c H1 locs1 (cells + mc) (slots + ms) Q (F0 m (pc + 3) ls (.long r :: rest))) : W p l e R s m args below meth c H locs cells slots Q (F0 m pc ls st0) := by
  intro T hT X
  rcases hr T hT X with ⟨v, st₀, t, T', L, h0, X', hL, e1, e2, ⟨⟨r, u, hv, hp, hb⟩, hF⟩, st⟩ | ⟨q, st₀, t, T', L, E, ce, h0, X', hL, e1, e2, ⟨u, hp, hb, hF⟩, hce, hcv, hcl, st⟩
  · cases hv
    obtain ⟨k1, k2, k3⟩ := vx_keep h0 e1 hS hA hf hL hF
    obtain ⟨t2, a1, b1⟩ := kk r u t T'.heap (locs ++ L) e1.symm (by rw [← e2]; exact X'.warmed.alike) hp hb k1 k2 k3 T' rfl X'
    exact ⟨t2, st t2 a1, b1⟩
  · obtain ⟨k1, k2, k3⟩ := vx_keep h0 e1 hS hAX hf hL hF
    obtain ⟨t2, a1, b1⟩ := kx E ce q u t T'.heap (locs ++ L) e1.symm (by rw [← e2]; exact X'.warmed.alike) hp hb k1 k2 k3 (by rw [e1]; exact hce) hcv hcl T' rfl X'
    exact ⟨t2, st.trans a1, b1⟩
theorem vx_callf {S SX : Type} {post : UInt32 → S → Prop} {px : SX → Prop} {B : S → State → Prop} {BX : String → SX → State → Prop} {AX : Nat → Prop} (hr : vx_Run p l e R s m args below meth c H locs cells slots mc ms (F0 m pc ls st0) rest (va_Qf post B A1 a) (vx_X px BX AX) free) (hS : va_S A0 H0 H locs) (hA : ∀ q, q < H.size → A1 q → A0 q) (hf : ∀ q, free q → A0 q) (hAX : ∀ q, q < H.size → AX q → A0 q)
    (kx : ∀ (E : String) (ce : Cell) (q9 : Addr) (u : SX) (t : State) (H1 : Heap) (locs1 : List Loc), t.heap = H1 → s.vm.Alike t.vm → px u → BX E u t → H.size ≤ H1.size → (∀ q : Nat, q < H.size → ¬ AX q → H1[q]? = H[q]?) → va_S A0 H0 H1 locs1 → H1[q9]? = some ce → ce.vm = .none → s.vm.findClass E = some ce.cls → vx_W p l e R s m args below meth c H1 locs1 (cells + mc) (slots + ms) Q (F0 m pc ls rest) q9)
    (kk : ∀ (r : UInt32) (u : S) (t : State) (H1 : Heap) (locs1 : List Loc), t.heap = H1 → s.vm.Alike t.vm → post r u → B u t → H.size ≤ H1.size → (∀ q : Nat, q < H.size → ¬ A1 q → H1[q]? = H[q]?) → va_S A0 H0 H1 locs1 → W p l e R s m args below meth c H1 locs1 (cells + mc) (slots + ms) Q (F0 m (pc + 3) ls (.float r :: rest))) : W p l e R s m args below meth c H locs cells slots Q (F0 m pc ls st0) := by
  intro T hT X
  rcases hr T hT X with ⟨v, st₀, t, T', L, h0, X', hL, e1, e2, ⟨⟨r, u, hv, hp, hb⟩, hF⟩, st⟩ | ⟨q, st₀, t, T', L, E, ce, h0, X', hL, e1, e2, ⟨u, hp, hb, hF⟩, hce, hcv, hcl, st⟩
  · cases hv
    obtain ⟨k1, k2, k3⟩ := vx_keep h0 e1 hS hA hf hL hF
    obtain ⟨t2, a1, b1⟩ := kk r u t T'.heap (locs ++ L) e1.symm (by rw [← e2]; exact X'.warmed.alike) hp hb k1 k2 k3 T' rfl X'
    exact ⟨t2, st t2 a1, b1⟩
  · obtain ⟨k1, k2, k3⟩ := vx_keep h0 e1 hS hAX hf hL hF
    obtain ⟨t2, a1, b1⟩ := kx E ce q u t T'.heap (locs ++ L) e1.symm (by rw [← e2]; exact X'.warmed.alike) hp hb k1 k2 k3 (by rw [e1]; exact hce) hcv hcl T' rfl X'
    exact ⟨t2, st.trans a1, b1⟩
theorem vx_calld {S SX : Type} {post : UInt64 → S → Prop} {px : SX → Prop} {B : S → State → Prop} {BX : String → SX → State → Prop} {AX : Nat → Prop} (hr : vx_Run p l e R s m args below meth c H locs cells slots mc ms (F0 m pc ls st0) rest (va_Qd post B A1 a) (vx_X px BX AX) free) (hS : va_S A0 H0 H locs) (hA : ∀ q, q < H.size → A1 q → A0 q) (hf : ∀ q, free q → A0 q) (hAX : ∀ q, q < H.size → AX q → A0 q)
    (kx : ∀ (E : String) (ce : Cell) (q9 : Addr) (u : SX) (t : State) (H1 : Heap) (locs1 : List Loc), t.heap = H1 → s.vm.Alike t.vm → px u → BX E u t → H.size ≤ H1.size → (∀ q : Nat, q < H.size → ¬ AX q → H1[q]? = H[q]?) → va_S A0 H0 H1 locs1 → H1[q9]? = some ce → ce.vm = .none → s.vm.findClass E = some ce.cls → vx_W p l e R s m args below meth c H1 locs1 (cells + mc) (slots + ms) Q (F0 m pc ls rest) q9)
    (kk : ∀ (r : UInt64) (u : S) (t : State) (H1 : Heap) (locs1 : List Loc), t.heap = H1 → s.vm.Alike t.vm → post r u → B u t → H.size ≤ H1.size → (∀ q : Nat, q < H.size → ¬ A1 q → H1[q]? = H[q]?) → va_S A0 H0 H1 locs1 → W p l e R s m args below meth c H1 locs1 (cells + mc) (slots + ms) Q (F0 m (pc + 3) ls (.double r :: rest))) : W p l e R s m args below meth c H locs cells slots Q (F0 m pc ls st0) := by
  intro T hT X
  rcases hr T hT X with ⟨v, st₀, t, T', L, h0, X', hL, e1, e2, ⟨⟨r, u, hv, hp, hb⟩, hF⟩, st⟩ | ⟨q, st₀, t, T', L, E, ce, h0, X', hL, e1, e2, ⟨u, hp, hb, hF⟩, hce, hcv, hcl, st⟩
  · cases hv
    obtain ⟨k1, k2, k3⟩ := vx_keep h0 e1 hS hA hf hL hF
    obtain ⟨t2, a1, b1⟩ := kk r u t T'.heap (locs ++ L) e1.symm (by rw [← e2]; exact X'.warmed.alike) hp hb k1 k2 k3 T' rfl X'
    exact ⟨t2, st t2 a1, b1⟩
  · obtain ⟨k1, k2, k3⟩ := vx_keep h0 e1 hS hAX hf hL hF
    obtain ⟨t2, a1, b1⟩ := kx E ce q u t T'.heap (locs ++ L) e1.symm (by rw [← e2]; exact X'.warmed.alike) hp hb k1 k2 k3 (by rw [e1]; exact hce) hcv hcl T' rfl X'
    exact ⟨t2, st.trans a1, b1⟩
theorem vx_callv {S SX : Type} {post : S → Prop} {px : SX → Prop} {B : S → State → Prop} {BX : String → SX → State → Prop} {AX : Nat → Prop} (hr : vx_Run p l e R s m args below meth c H locs cells slots mc ms (F0 m pc ls st0) rest (va_Qv post B A1 a) (vx_X px BX AX) free) (hS : va_S A0 H0 H locs) (hA : ∀ q, q < H.size → A1 q → A0 q) (hf : ∀ q, free q → A0 q) (hAX : ∀ q, q < H.size → AX q → A0 q)
    (kx : ∀ (E : String) (ce : Cell) (q9 : Addr) (u : SX) (t : State) (H1 : Heap) (locs1 : List Loc), t.heap = H1 → s.vm.Alike t.vm → px u → BX E u t → H.size ≤ H1.size → (∀ q : Nat, q < H.size → ¬ AX q → H1[q]? = H[q]?) → va_S A0 H0 H1 locs1 → H1[q9]? = some ce → ce.vm = .none → s.vm.findClass E = some ce.cls → vx_W p l e R s m args below meth c H1 locs1 (cells + mc) (slots + ms) Q (F0 m pc ls rest) q9)
    (kk : ∀ (u : S) (t : State) (H1 : Heap) (locs1 : List Loc), t.heap = H1 → s.vm.Alike t.vm → post u → B u t → H.size ≤ H1.size → (∀ q : Nat, q < H.size → ¬ A1 q → H1[q]? = H[q]?) → va_S A0 H0 H1 locs1 → W p l e R s m args below meth c H1 locs1 (cells + mc) (slots + ms) Q (F0 m (pc + 3) ls (rest))) : W p l e R s m args below meth c H locs cells slots Q (F0 m pc ls st0) := by
  intro T hT X
  rcases hr T hT X with ⟨v, st₀, t, T', L, h0, X', hL, e1, e2, ⟨⟨u, hv, hp, hb⟩, hF⟩, st⟩ | ⟨q, st₀, t, T', L, E, ce, h0, X', hL, e1, e2, ⟨u, hp, hb, hF⟩, hce, hcv, hcl, st⟩
  · cases hv
    obtain ⟨k1, k2, k3⟩ := vx_keep h0 e1 hS hA hf hL hF
    obtain ⟨t2, a1, b1⟩ := kk u t T'.heap (locs ++ L) e1.symm (by rw [← e2]; exact X'.warmed.alike) hp hb k1 k2 k3 T' rfl X'
    exact ⟨t2, st t2 a1, b1⟩
  · obtain ⟨k1, k2, k3⟩ := vx_keep h0 e1 hS hAX hf hL hF
    obtain ⟨t2, a1, b1⟩ := kx E ce q u t T'.heap (locs ++ L) e1.symm (by rw [← e2]; exact X'.warmed.alike) hp hb k1 k2 k3 (by rw [e1]; exact hce) hcv hcl T' rfl X'
    exact ⟨t2, st.trans a1, b1⟩
/-- caught by the row x of this method's table; the rows ahead don't take it -/
theorem vx_catch {own name : String} {E : String} {ce : Cell} {q : Addr} (hown : s.vm.findClass own = some m.cls) (pre : List ExceptionTableEntry) (x : ExceptionTableEntry) (suf : List ExceptionTableEntry) (hsplit : c.exceptionTable.toList = pre ++ x :: suf)
    (hpass : ∀ z ∈ pre, covers z pc = false ∨ (z.catchType ≠ 0 ∧ ∃ nm : String, (Cond.classLink own z.catchType nm).before args s = true ∧ va_Nc E nm s)) (hx : covers x pc = true) (h0 : x.catchType ≠ 0)
    (hlink : (Cond.classLink own x.catchType name).before args s = true) (hcast : (Cond.castable E name).before args s = true) (hcell : H[q]? = some ce) (hv : ce.vm = .none) (hcl : s.vm.findClass E = some ce.cls)
    (kk : W p l e R s m args below meth c H locs cells slots Q (F0 m x.handlerPc ls [.ref q])) : vx_W p l e R s m args below meth c H locs cells slots Q (F0 m pc ls rest) q := by
  intro T hT X
  have hpl : e.platform.magicAccessors = ({} : Platform).magicAccessors := by rw [X.admits.platform]
  obtain ⟨c3, c4, hc3, hc4, hasg⟩ := Cond.castable_spec hcast
  cases Option.some.inj (hc3.symm.trans hcl)
  obtain ⟨c5, hc5, hcl5⟩ := Cond.classLink_spec hown hlink e.platform hpl
  cases Option.some.inj (hc4.symm.trans hc5)
  obtain ⟨vm', X', st⟩ := X.thenCaughtThrough q (g := F0 m pc ls rest) rfl (Steps.refl _) (by rw [hT]; exact hcell) (by rw [hv]; rfl) (by obtain ⟨k9, h9, -⟩ := Vm.findClass_spec hcl; exact ⟨k9, h9⟩) pre x suf hsplit
    (fun z hz => by
      rcases hpass z hz with h | ⟨hz0, nm, hl1, hn1⟩
      · exact Or.inl h
      · obtain ⟨c6, hc6, hcl6⟩ := Cond.classLink_spec hown hl1 e.platform hpl
        obtain ⟨a8, b8, h1, h2, h3⟩ := hn1
        cases Option.some.inj (h1.symm.trans hcl)
        cases Option.some.inj (h2.symm.trans hc6)
        exact Or.inr ⟨hz0, _, hcl6, h3⟩) hx (Or.inr ⟨h0, c4, hcl5, hasg⟩)
  obtain ⟨t, a1, b1⟩ := kk (T.setVm vm') hT X'
  exact ⟨t, st.trans a1, b1⟩
end Rows
section Ends
variable {p : Program} {l : Launch} {e : Env} {R : Room} {s : State} {m : MethodId} {args : Array Value} {below : List Frame} {meth : Method} {c : Code} {H : Heap} {locs : List Loc} {cells slots : Nat} {Q : State → Prop}
variable {mc ms : Nat} {free : Addr → Prop} {A0 A1 : Nat → Prop} {H0 : Heap} {a : Array Value} {ls : Array Slot} {st0 rest : List Value}
variable {Qc : Array Value → State → Outcome → State → Prop} {XC : String → State → State → Prop}
/-- what a body that may throw owes at its end -/
def vx_MQ (below : List Frame) (Qc : Array Value → State → Outcome → State → Prop) (XC : String → State → State → Prop) (a : Array Value) (s : State) (mc ms : Nat) (free : Addr → Prop) : State → Prop := fun t =>
  ∃ o, t.status = .running ∧ Ended t below o ∧ vx_Q Qc XC mc ms free a s o t
theorem vx_ret {g : JFrame} {mc ms : Nat} (k : W p l e R s m args below meth c H locs cells slots (MQ below Qc args s mc ms free) g) : W p l e R s m args below meth c H locs cells slots (vx_MQ below Qc XC args s mc ms free) g := by
  intro T hT X
  obtain ⟨t, a1, o, b1, b2, b3, b4⟩ := k T hT X
  exact ⟨t, a1, o, b1, b2, Or.inl ⟨b3, b4⟩⟩
/-- not caught here: it goes on to the caller -/
theorem vx_widen {g : JFrame} {q : Addr} {k n : Nat} (h1 : cells ≤ k) (h2 : slots ≤ n) (kk : vx_W p l e R s m args below meth c H locs k n Q g q) : vx_W p l e R s m args below meth c H locs cells slots Q g q := fun T hT X => kk T hT (stand_widen X h1 h2)
theorem vx_out {pc : Nat} {E : String} {ce : Cell} {q : Addr} {mc ms : Nat} (hout : ∀ x ∈ c.exceptionTable.toList, covers x pc = false) (hlocks : meth.locks = false) (hcell : H[q]? = some ce) (hv : ce.vm = .none) (hcl : s.vm.findClass E = some ce.cls)
    (hx : ∀ t : State, t.heap = H → s.vm.Alike t.vm → XC E s t) (hf : ∀ z ∈ locs, free z.base) (hc : cells ≤ mc) (hs : slots ≤ ms) :
    vx_W p l e R s m args below meth c H locs cells slots (vx_MQ below Qc XC args s mc ms free) (F0 m pc ls rest) q := by
  intro T hT X
  obtain ⟨st1, hrun, hend, hW, hsm⟩ := X.leaveThrown q (g := F0 m pc ls rest) rfl rfl rfl hout hlocks
  have hcell9 : (T.setFrames (.throwing q :: below)).heap[q]? = some ce := by
    show T.heap[q]? = some ce
    rw [hT]; exact hcell
  exact ⟨_, st1, .threw q, hrun, hend, Or.inr ⟨q, rfl, E, ce, locs, hx _ hT hW.alike, hcell9, hv, hcl, hW, hsm.mono hc hs, hf⟩⟩
theorem vx_frame {U : State} {k n : Nat} (h : s.sameButNew ({ U with vm := s.vm } : State) locs k n) : s.heap.size ≤ U.heap.size ∧ ∀ q : Nat, q < s.heap.size → (∀ z ∈ locs, z.base ≠ q) → U.heap[q]? = s.heap[q]? := by
  obtain ⟨-, h2, -, -, -, h6⟩ := h
  refine ⟨h2, fun q hq hz => ?_⟩
  obtain ⟨c9, e1, e2, e3, e4⟩ := h6 q _ (Array.getElem?_eq_getElem hq)
  have hs : c9.slots = (s.heap[q]).slots := Array.ext_getElem? fun i => e4 i fun hm => hz _ hm rfl
  have h9 : c9 = s.heap[q] := by
    rw [hs] at e2
    exact e2
  have e5 : U.heap[q]? = some c9 := e1
  rw [e5, h9, Array.getElem?_eq_getElem hq]
/-- the words of a throw but the four that speak of the heap -/
def vx_no (w : Cond) : Bool := decide (w ≠ .isRef (.static Bundle.tN "UNASSIGNED_STACK" Bundle.steD)) && decide (w ≠ .isRef (.static Bundle.tN "SUPPRESSED_SENTINEL" Bundle.listD)) && decide (w ≠ .laysStatic Bundle.tN "UNASSIGNED_STACK" Bundle.steD) && decide (w ≠ .laysStatic Bundle.tN "SUPPRESSED_SENTINEL" Bundle.listD)
def vx_at0 (own : String) (ic : Nat) (X : String) (names : List String) : List Cond := (Bundle.ownAtoms0 own ic X names).filter vx_no
def vx_atS (own : String) (ic : Nat) (X : String) (names : List String) : List Cond := (Bundle.ownAtoms own ic X names).filter vx_no
/-- a word that the tables alone decide, or a good one -/
def vx_ot (w : Cond) : Bool := w.onTables || goodWord w
theorem vx_ot_at {args a' : Array Value} {s U : State} {w : Cond} (hW : s.WarmedH U.vm) (hvm : s.vm = U.vm) (hg : vx_ot w = true) (h : w.before args s = true) : w.before a' U = true := by
  simp only [vx_ot, Bool.or_eq_true] at hg
  rcases hg with hg | hg
  · exact va_tabs hg hvm h
  · exact word_at hW (good_of_word hg) h
/-- a list's words: the good ones out of the method's own list, the others by premises of their own -/
theorem vx_hat {args : Array Value} {s : State} {L B : List Cond} (h1 : ∀ w ∈ L.filter goodWord, w.before args s = true) (h2 : ∀ w ∈ L.filter (fun w => !goodWord w), w ∈ B) (h3 : ∀ w ∈ B, w.before args s = true) : ∀ w ∈ L, w.before args s = true := by
  intro w hw
  by_cases g : goodWord w = true
  · exact h1 w (List.mem_filter.mpr ⟨hw, g⟩)
  · refine h3 w (h2 w (List.mem_filter.mpr ⟨hw, ?_⟩))
    show (!goodWord w) = true
    cases hgw : goodWord w
    · rfl
    · exact absurd hgw g
theorem vx_c {args : Array Value} {s : State} {w : Cond} {B : List Cond} (h : w.before args s = true) (t : ∀ w ∈ B, w.before args s = true) : ∀ w' ∈ w :: B, w'.before args s = true := fun w' h' => (List.mem_cons.mp h').elim (fun e => by rw [e]; exact h) (t w')
theorem vx_n {args : Array Value} {s : State} : ∀ w ∈ ([] : List Cond), w.before args s = true := fun _ h => nomatch h
theorem vx_own {args : Array Value} {s : State} {L : List Cond} (h1 : ∀ w ∈ L.filter vx_no, w.before args s = true)
    (hU : (Cond.isRef (.static Bundle.tN "UNASSIGNED_STACK" Bundle.steD)).before args s = true) (hN : (Cond.isRef (.static Bundle.tN "SUPPRESSED_SENTINEL" Bundle.listD)).before args s = true)
    (lU : (Cond.laysStatic Bundle.tN "UNASSIGNED_STACK" Bundle.steD).before args s = true) (lN : (Cond.laysStatic Bundle.tN "SUPPRESSED_SENTINEL" Bundle.listD).before args s = true) : ∀ w ∈ L, w.before args s = true := by
  intro w hw
  by_cases e1 : w = .isRef (.static Bundle.tN "UNASSIGNED_STACK" Bundle.steD)
  · rw [e1]; exact hU
  · by_cases e2 : w = .isRef (.static Bundle.tN "SUPPRESSED_SENTINEL" Bundle.listD)
    · rw [e2]; exact hN
    · by_cases e3 : w = .laysStatic Bundle.tN "UNASSIGNED_STACK" Bundle.steD
      · rw [e3]; exact lU
      · by_cases e4 : w = .laysStatic Bundle.tN "SUPPRESSED_SENTINEL" Bundle.listD
        · rw [e4]; exact lN
        · exact h1 w (List.mem_filter.mpr ⟨hw, by unfold vx_no; rw [decide_eq_true e1, decide_eq_true e2, decide_eq_true e3, decide_eq_true e4]; rfl⟩)
/-- where a static field lies, its class's statics cell in H -/
def vx_L (C n d : String) (A : Nat → Prop) (U : State) (H : Heap) : Prop := ∃ (c : ClassId) (k : Class) (i : Nat) (f : Field) (a : Nat) (cell : Cell), U.vm.findClass C = some c ∧ U.fieldFound? C n d = some (c, k, i, f) ∧ f.isStatic = true ∧ k.statics = some a ∧ H[a]? = some cell ∧ cell.vm.isStatics = true ∧ cell.cls = c ∧ f.slot < cell.slots.size ∧ k.staticTypes[f.slot]? = some f.type ∧ ¬ A a
theorem vx_L.moved {C n d : String} {A : Nat → Prop} {u U : State} {H : Heap} (hvm : u.vm.Alike U.vm) (h : vx_L C n d A u H) : vx_L C n d A U H := by
  obtain ⟨c, k, i, f, a, cell, h1, h2, h3, h4, h5, h6, h7, h8, h9, h10⟩ := h
  obtain ⟨k', hi', he⟩ := State.fieldFound?_setVm hvm h2
  exact ⟨c, k', i, f, a, cell, by rw [hvm.findClass]; exact h1, hi', h3, by rw [he]; exact h4, h5, h6, h7, h8, by rw [he]; exact h9, h10⟩
theorem vx_L.kept {C n d : String} {A : Nat → Prop} {U : State} {H H1 : Heap} (h : vx_L C n d A U H) (hq : ∀ a : Nat, a < H.size → ¬ A a → H1[a]? = H[a]?) : vx_L C n d A U H1 := by
  obtain ⟨c, k, i, f, a, cell, h1, h2, h3, h4, h5, h6, h7, h8, h9, h10⟩ := h
  exact ⟨c, k, i, f, a, cell, h1, h2, h3, h4, by rw [hq a (Array.getElem?_eq_some_iff.mp h5).1 h10]; exact h5, h6, h7, h8, h9, h10⟩
theorem vx_L.narrow {C n d : String} {A B : Nat → Prop} {U : State} {H : Heap} (h : vx_L C n d A U H) (hAB : ∀ q, B q → A q) : vx_L C n d B U H := by
  obtain ⟨c, k, i, f, a, cell, h1, h2, h3, h4, h5, h6, h7, h8, h9, h10⟩ := h
  exact ⟨c, k, i, f, a, cell, h1, h2, h3, h4, h5, h6, h7, h8, h9, fun z => h10 (hAB _ z)⟩
theorem vx_L.word {C n d : String} {A : Nat → Prop} {s : State} {args : Array Value} (h : vx_L C n d A s s.heap) : (Cond.laysStatic C n d).before args s = true := by
  obtain ⟨c, k, i, f, a, cell, h1, h2, h3, h4, h5, h6, h7, h8, h9, -⟩ := h
  show (Cond.laysStatic C n d).holds args s none s [] = true
  exact Cond.laysStatic_of h1 h2 h3 h4 h5 h6 h7 h8 h9
/-- .. and what it holds: null or some reference -/
def vx_Zq (C n d : String) (A : Nat → Prop) (U : State) (H : Heap) : Prop := va_Zq C n d A U H ∧ vx_L C n d A U H
theorem vx_Zq.moved {C n d : String} {A : Nat → Prop} {u U : State} {H : Heap} (hvm : u.vm.Alike U.vm) (h : vx_Zq C n d A u H) : vx_Zq C n d A U H := ⟨va_Zq.moved hvm h.1, vx_L.moved hvm h.2⟩
theorem vx_Zq.kept {C n d : String} {A : Nat → Prop} {U : State} {H H1 : Heap} (h : vx_Zq C n d A U H) (hq : ∀ a : Nat, a < H.size → ¬ A a → H1[a]? = H[a]?) : vx_Zq C n d A U H1 := ⟨va_Zq.kept h.1 hq, vx_L.kept h.2 hq⟩
theorem vx_Zq.narrow {C n d : String} {A B : Nat → Prop} {U : State} {H : Heap} (h : vx_Zq C n d A U H) (hAB : ∀ q, B q → A q) : vx_Zq C n d B U H := ⟨va_Zq.narrow h.1 hAB, vx_L.narrow h.2 hAB⟩
theorem vx_Zqof {args : Array Value} {s : State} {C n d : String} {A : Nat → Prop} (hl : (Cond.laysStatic C n d).before args s = true) (hini : (Cond.initialized C).before args s = true) (h : (Cond.isRef (.static C n d)).before args s = true) (hA : ∀ a : Nat, a < s.heap.size → ¬ A a) : vx_Zq C n d A s s.heap := by
  refine ⟨va_Zqof hl hini h hA, ?_⟩
  obtain ⟨c, k, i, f, a, cell, h1, h2, h3, h4, h5, h6, h7, h8, h9⟩ := Cond.laysStatic_spec hl
  exact ⟨c, k, i, f, a, cell, h1, h2, h3, h4, h5, h6, h7, h8, h9, hA a (Array.getElem?_eq_some_iff.mp h5).1⟩
theorem vx_isRef {C n d : String} {v : Value} {A : Nat → Prop} {s : State} {args : Array Value} (h : va_Z C n d v A s s.heap) (hv : v.isRef = true) : (Cond.isRef (.static C n d)).before args s = true := by
  obtain ⟨cf, kf, fi, f, a, cell, h1, h2, h3, h4, h5, h6, h7, -⟩ := h
  have he : (Term.static C n d).eval args s none [] s = some v := by
    simp [Term.eval, State.fieldNamed?, h1, h2, h4, h5, h6, h7]
  simp only [Cond.before, Cond.holds, Cond.value, he]
  cases v <;> simp_all [Value.isRef]
theorem vx_isRefq {C n d : String} {A : Nat → Prop} {s : State} {args : Array Value} (h : va_Zq C n d A s s.heap) : (Cond.isRef (.static C n d)).before args s = true := by
  rcases h with h | ⟨t, h⟩
  · exact vx_isRef h rfl
  · exact vx_isRef h rfl
/-- the same frame, seen from here: as if the method were called anew in this heap -/
theorem vx_rebase {T : State} (X : Stand p l e R s m args below meth c T locs cells slots) {R' : Room} (hf : R'.frames ≤ R.frames) (hl : R'.locals ≤ R.locals) (hc : cells + R'.cells ≤ R.cells) (hs : slots + R'.slots ≤ R.slots) :
    Stand p l e R' ((T.setVm s.vm).setFrames (.invoking m args :: below)) m args below meth c T [] 0 0 := by
  have htop : (T.setVm s.vm).topJava?.isSome := X.here.top
  have hF : ((T.setVm s.vm).setFrames (.invoking m args :: below)).frames = .invoking m args :: below := State.frames_setFrames _ (State.cur_lt_of_top htop)
  obtain ⟨g₀, hg0⟩ := Option.isSome_iff_exists.mp htop
  obtain ⟨r, hr⟩ := State.topJava?_eq_some.mp hg0
  have hl9 : e.platform.stackLimits (T.setVm s.vm).me = e.platform.stackLimits s.me := X.limits
  have hb9 : (T.setVm s.vm).me.stackBytes = s.me.stackBytes := X.bytes
  refine ⟨X.admits, X.cas, X.clock, hF, ?_, X.hears, X.method, X.code, X.here, X.tail, X.warmed, ?_, ?_, ?_⟩
  · have h := X.room
    have hU : ((T.setVm s.vm).setFrames (.invoking m args :: below)).localsInUse = s.localsInUse := by
      rw [State.localsInUse_invoking hF (meth := meth) (c := c) X.method X.code, State.localsInUse_invoking X.frames X.method X.code]
    simp only [State.hasRoom, Bool.and_eq_true, decide_eq_true_eq] at h ⊢
    obtain ⟨⟨⟨⟨h1, h2, h3, h4, h5, h6⟩, h7⟩, h8⟩, h9⟩ := h
    rw [X.frames, List.length_cons] at h2 h3
    have q1 := X.heapSize
    have q2 := X.used
    simp only [hF, hU, List.length_cons, State.stackLimits_setFrames, State.stackBytes_setFrames, hl9, hb9]
    refine ⟨⟨⟨⟨by omega, by omega, by omega, by omega, by omega, h6⟩, ?_⟩, ?_⟩, X.book⟩
    · show T.heap.size + R'.cells ≤ e.platform.maxCells
      omega
    · show T.slotsUsed + R'.slots ≤ e.platform.maxSlots
      omega
  · rw [State.stackLimits_setFrames]; rfl
  · rw [State.stackBytes_setFrames]; rfl
  · refine ⟨?_, Nat.le_refl _, Nat.le_refl _, ?_, ?_, fun a c9 h9 => ⟨c9, h9, rfl, rfl, fun _ _ => rfl⟩⟩
    · obtain ⟨t, ht, -⟩ := State.frames_cons hr
      show T.setVm s.vm = { ((T.setVm s.vm).setFrames (.invoking m args :: below)).setFrames (T.setVm s.vm).frames with heap := T.heap, slotsUsed := T.slotsUsed }
      rw [State.setFrames_setFrames, State.setFrames_self ht]
      rfl
    · show T.slotsUsed = T.slotsUsed + ((T.heap.toList.drop T.heap.size).map (·.slots.size)).sum
      rw [List.drop_eq_nil_of_le (Nat.le_of_eq Array.length_toList)]
      rfl
    · show ((T.heap.toList.drop T.heap.size).map (·.slots.size)).sum ≤ 0
      rw [List.drop_eq_nil_of_le (Nat.le_of_eq Array.length_toList)]
      exact Nat.le_refl _
/-- 'throw new E()': new; dup; invokespecial; athrow -/
theorem vx_throw0 {cc : ByteArray} {pc : Nat} (hexec : p.tables.exec = Jvm.exec) (hb : c.code = cc) (hl : l.stackTraces = false) {own cls : String} {names : List String} {ik ic mc ms : Nat} {A : Nat → Prop}
    (hown : s.vm.findClass own = some m.cls) (hcls : Bundle.fit cls = true) (hnames : ∀ n ∈ names, Bundle.fit n = true)
    (hk : (Cond.classLink own ik cls).before args s = true) (hini : (Cond.initialized cls).before args s = true) (hat : ∀ w ∈ vx_at0 own ic cls names, w.before args s = true)
    (hgood : ∀ w ∈ Cond.classLink own ik cls :: Cond.initialized cls :: vx_at0 own ic cls names, vx_ot w = true)
    (hU : vx_Zq Bundle.tN "UNASSIGNED_STACK" Bundle.steD A s s.heap) (hN : vx_Zq Bundle.tN "SUPPRESSED_SENTINEL" Bundle.listD A s s.heap) (hS : va_S A s.heap H locs) (hsize : ls.size = c.maxLocals)
    (d0 : decode cc pc = .ok (.new ik, 3)) (d3 : decode cc (pc + 3) = .ok (.dup, 1)) (d4 : decode cc (pc + 4) = .ok (.invokespecial ic, 3)) (d7 : decode cc (pc + 7) = .ok (.athrow, 1))
    (hout : ∀ x ∈ c.exceptionTable.toList, covers x (pc + 7) = false)
    (hRframes : names.length + 3 < R.frames) (hRlocals : (rest.map fun v => v.category).sum + (13 * (names.length + 1) + 42) ≤ R.locals) (hRcells : cells + 1 ≤ R.cells) (hRslots : slots + 6 ≤ R.slots) (hlocks : meth.locks = false)
    (hx : ∀ t : State, s.vm.Alike t.vm → H.size ≤ t.heap.size → (∀ q : Nat, q < H.size → t.heap[q]? = H[q]?) → XC cls s t)
    (hf : ∀ z ∈ locs, free z.base) (hc : cells + 1 ≤ mc) (hs : slots + 6 ≤ ms) :
    W p l e R s m args below meth c H locs cells slots (vx_MQ below Qc XC args s mc ms free) (F0 m pc ls rest) := by
  intro T hT X
  have htr : e.platform.stackTraces = false := (show e.platform.stackTraces = l.stackTraces by rw [X.admits.platform]).trans hl
  have Y := vx_rebase X (R' := { frames := R.frames, locals := R.locals, cells := 1, slots := 6 }) (Nat.le_refl _) (Nat.le_refl _) hRcells hRslots
  obtain ⟨s', hA⟩ : ∃ z, z = (T.setVm s.vm).setFrames (.invoking m args :: below) := ⟨_, rfl⟩
  rw [← hA] at Y
  have hvm : s'.vm = s.vm := by rw [hA]; rfl
  have hhp : s'.heap = H := by rw [hA]; exact hT
  have hW0 : s.WarmedH s'.vm := by rw [hvm]; exact State.WarmedH.refl s
  have hat' : ∀ w ∈ vx_at0 own ic cls names, w.before args s' = true := fun w hw => vx_ot_at hW0 hvm.symm (hgood w (List.mem_cons_of_mem _ (List.mem_cons_of_mem _ hw))) (hat w hw)
  have hk' : (Cond.classLink own ik cls).before args s' = true := vx_ot_at hW0 hvm.symm (hgood _ List.mem_cons_self) hk
  have hini' : (Cond.initialized cls).before args s' = true := vx_ot_at hW0 hvm.symm (hgood _ (List.mem_cons_of_mem _ List.mem_cons_self)) hini
  have hU' : vx_Zq Bundle.tN "UNASSIGNED_STACK" Bundle.steD A s' s'.heap := by rw [hhp]; exact vx_Zq.moved hW0.alike (hU.kept hS.2.1)
  have hN' : vx_Zq Bundle.tN "SUPPRESSED_SENTINEL" Bundle.listD A s' s'.heap := by rw [hhp]; exact vx_Zq.moved hW0.alike (hN.kept hS.2.1)
  have h : ∀ w ∈ Bundle.ownAtoms0 own ic cls names, w.before args s' = true := vx_own hat' (vx_isRefq hU'.1) (vx_isRefq hN'.1) hU'.2.word hN'.2.word
  have hown' : s'.vm.findClass own = some m.cls := by rw [hvm]; exact hown
  have hins : (Cond.instantiable cls 6).before args s' = true := h _ (by simp [Bundle.ownAtoms0])
  obtain ⟨vm₁, cX, kX, hfX, hkX, -, -, X₁, st1⟩ := Y.newCold hexec (own := own) (C := cls) (index := ik) (n := 6) hown' hk' hins hini'
    (g := F0 m pc ls rest) rfl (by rw [hb]; exact d0) (Nat.le_refl _) (Nat.le_refl _)
  generalize hT1 : (T.setVm vm₁).pushCell { cls := cX, slots := kX.instanceTypes.map defaultValue, vm := .none } = T1 at X₁ st1
  have hcat : (Value.ref T.heap.size).category = 1 := rfl
  have hcellA : T1.heap[T.heap.size]? = some (freshCell cX kX) := by rw [← hT1]; exact State.heap_pushCell_size _ _
  have d3' : decode c.code (pc + 3) = .ok (.dup, 1) := by rw [hb]; exact d3
  obtain ⟨U, hsteps, hrun, hend, hW, hsame, ce, hce, hO⟩ := X₁.ctorThrow0 hexec htr (own := own) (cls := cls) (names := names) (ic := ic) hown' hcls hnames h (fun x hx => nomatch hx) hfX hkX hcellA (by rw [hhp, hT]; exact Nat.le_refl _)
    (g := { method := m, pc := pc + 4, locals := ls, stack := .ref T.heap.size :: .ref T.heap.size :: rest, locked := none }) rfl hsize rfl rfl (rest := rest) rfl
    (by rw [hb]; exact d4) (by rw [hb]; exact d7) hout hRframes (by simp only [List.map_cons, List.sum_cons, hcat]; omega) hlocks
  obtain ⟨f1, f2⟩ := vx_frame hsame
  rw [hhp] at f1 f2
  have hWs : s.WarmedH U.vm := State.WarmedH.trans hW0 hW
  have hcl : s.vm.findClass cls = some ce.cls := by
    have h9 := hO.cls
    rw [hvm] at h9
    exact h9
  have hall : s.sameButNew ({ U with vm := s.vm } : State) locs mc ms := by
    subst hA
    obtain ⟨e1, e2⟩ := hsame
    rw [State.setFrames_setFrames] at e1
    have h2 : (T.setVm s.vm).sameButNew ({ U with vm := s.vm } : State) [] (0 + 1) (0 + 6) := ⟨e1, e2⟩
    have h3 := X.same.trans h2
    rw [List.append_nil] at h3
    exact h3.mono hc hs
  refine ⟨U, ?_, .threw T.heap.size, hrun, hend, Or.inr ⟨T.heap.size, rfl, cls, ce, locs, hx U hWs.alike f1 (fun q hq => f2 q hq (fun z hz => nomatch hz)), hce, hO.vm, hcl, hWs, hall, hf⟩⟩
  refine st1 _ ?_
  show Steps p.tables e below (T1.setTop { method := m, pc := pc + 3, locals := ls, stack := .ref T.heap.size :: rest, locked := none }) _
  jvm_step X₁.here [X₁.here.top, hexec, d3', Value.category]
  exact hsteps
/-- 'throw new E("text")': new; dup; ldc; invokespecial; athrow -/
theorem vx_throwS {cc : ByteArray} {pc : Nat} (hexec : p.tables.exec = Jvm.exec) (hb : c.code = cc) (hl : l.stackTraces = false) {own cls text : String} {names : List String} {ik is ic mc ms sa : Nat} {A : Nat → Prop}
    (hown : s.vm.findClass own = some m.cls) (hcls : Bundle.fit cls = true) (hnames : ∀ n ∈ names, Bundle.fit n = true)
    (hk : (Cond.classLink own ik cls).before args s = true) (hini : (Cond.initialized cls).before args s = true) (hstr : vk_R own is text sa s) (hat : ∀ w ∈ vx_atS own ic cls names, w.before args s = true)
    (hgood : ∀ w ∈ Cond.classLink own ik cls :: Cond.initialized cls :: vx_atS own ic cls names, vx_ot w = true)
    (hU : vx_Zq Bundle.tN "UNASSIGNED_STACK" Bundle.steD A s s.heap) (hN : vx_Zq Bundle.tN "SUPPRESSED_SENTINEL" Bundle.listD A s s.heap) (hS : va_S A s.heap H locs) (hsize : ls.size = c.maxLocals)
    (d0 : decode cc pc = .ok (.new ik, 3)) (d3 : decode cc (pc + 3) = .ok (.dup, 1)) (d4 : decode cc (pc + 4) = .ok (.ldc is, 2)) (d6 : decode cc (pc + 6) = .ok (.invokespecial ic, 3)) (d9 : decode cc (pc + 9) = .ok (.athrow, 1))
    (hout : ∀ x ∈ c.exceptionTable.toList, covers x (pc + 9) = false)
    (hRframes : names.length + 3 < R.frames) (hRlocals : (rest.map fun v => v.category).sum + (13 * (names.length + 1) + 43) ≤ R.locals) (hRcells : cells + 1 ≤ R.cells) (hRslots : slots + 6 ≤ R.slots) (hlocks : meth.locks = false)
    (hx : ∀ t : State, s.vm.Alike t.vm → H.size ≤ t.heap.size → (∀ q : Nat, q < H.size → t.heap[q]? = H[q]?) → XC cls s t)
    (hf : ∀ z ∈ locs, free z.base) (hc : cells + 1 ≤ mc) (hs : slots + 6 ≤ ms) :
    W p l e R s m args below meth c H locs cells slots (vx_MQ below Qc XC args s mc ms free) (F0 m pc ls rest) := by
  intro T hT X
  have htr : e.platform.stackTraces = false := (show e.platform.stackTraces = l.stackTraces by rw [X.admits.platform]).trans hl
  have Y := vx_rebase X (R' := { frames := R.frames, locals := R.locals, cells := 1, slots := 6 }) (Nat.le_refl _) (Nat.le_refl _) hRcells hRslots
  obtain ⟨s', hA⟩ : ∃ z, z = (T.setVm s.vm).setFrames (.invoking m args :: below) := ⟨_, rfl⟩
  rw [← hA] at Y
  have hvm : s'.vm = s.vm := by rw [hA]; rfl
  have hhp : s'.heap = H := by rw [hA]; exact hT
  have hW0 : s.WarmedH s'.vm := by rw [hvm]; exact State.WarmedH.refl s
  have hat' : ∀ w ∈ vx_atS own ic cls names, w.before args s' = true := fun w hw => vx_ot_at hW0 hvm.symm (hgood w (List.mem_cons_of_mem _ (List.mem_cons_of_mem _ hw))) (hat w hw)
  have hk' : (Cond.classLink own ik cls).before args s' = true := vx_ot_at hW0 hvm.symm (hgood _ List.mem_cons_self) hk
  have hini' : (Cond.initialized cls).before args s' = true := vx_ot_at hW0 hvm.symm (hgood _ (List.mem_cons_of_mem _ List.mem_cons_self)) hini
  have hU' : vx_Zq Bundle.tN "UNASSIGNED_STACK" Bundle.steD A s' s'.heap := by rw [hhp]; exact vx_Zq.moved hW0.alike (hU.kept hS.2.1)
  have hN' : vx_Zq Bundle.tN "SUPPRESSED_SENTINEL" Bundle.listD A s' s'.heap := by rw [hhp]; exact vx_Zq.moved hW0.alike (hN.kept hS.2.1)
  have h : ∀ w ∈ Bundle.ownAtoms own ic cls names, w.before args s' = true := vx_own hat' (vx_isRefq hU'.1) (vx_isRefq hN'.1) hU'.2.word hN'.2.word
  have hown' : s'.vm.findClass own = some m.cls := by rw [hvm]; exact hown
  have hins : (Cond.instantiable cls 6).before args s' = true := h _ (by simp [Bundle.ownAtoms])
  obtain ⟨vm₁, cX, kX, hfX, hkX, -, -, X₁, st1⟩ := Y.newCold hexec (own := own) (C := cls) (index := ik) (n := 6) hown' hk' hins hini'
    (g := F0 m pc ls rest) rfl (by rw [hb]; exact d0) (Nat.le_refl _) (Nat.le_refl _)
  generalize hT1 : (T.setVm vm₁).pushCell { cls := cX, slots := kX.instanceTypes.map defaultValue, vm := .none } = T1 at X₁ st1
  have hcat : (Value.ref T.heap.size).category = 1 := rfl
  have hcellA : T1.heap[T.heap.size]? = some (freshCell cX kX) := by rw [← hT1]; exact State.heap_pushCell_size _ _
  have d3' : decode c.code (pc + 3) = .ok (.dup, 1) := by rw [hb]; exact d3
  have d4' : decode c.code (pc + 4) = .ok (.ldc is, 2) := by rw [hb]; exact d4
  have hstr' : vk_R own is text sa s' := vk_R.warm hW0 hstr
  obtain ⟨U, hsteps, hrun, hend, hW, hsame, ce, hce, hO⟩ := X₁.ctorThrowS hexec htr (own := own) (cls := cls) (names := names) (ic := ic) hown' hcls hnames h (fun x hx => nomatch hx) hfX hkX hcellA (by rw [hhp, hT]; exact Nat.le_refl _) (msg := .ref sa) rfl
    (g := { method := m, pc := pc + 6, locals := ls, stack := .ref sa :: .ref T.heap.size :: .ref T.heap.size :: rest, locked := none }) rfl hsize rfl rfl (rest := rest) rfl
    (by rw [hb]; exact d6) (by rw [hb]; exact d9) hout hRframes (by simp only [List.map_cons, List.sum_cons, hcat]; omega) hlocks
  obtain ⟨f1, f2⟩ := vx_frame hsame
  rw [hhp] at f1 f2
  have hWs : s.WarmedH U.vm := State.WarmedH.trans hW0 hW
  have hcl : s.vm.findClass cls = some ce.cls := by
    have h9 := hO.cls
    rw [hvm] at h9
    exact h9
  have hall : s.sameButNew ({ U with vm := s.vm } : State) locs mc ms := by
    subst hA
    obtain ⟨e1, e2⟩ := hsame
    rw [State.setFrames_setFrames] at e1
    have h2 : (T.setVm s.vm).sameButNew ({ U with vm := s.vm } : State) [] (0 + 1) (0 + 6) := ⟨e1, e2⟩
    have h3 := X.same.trans h2
    rw [List.append_nil] at h3
    exact h3.mono hc hs
  refine ⟨U, ?_, .threw T.heap.size, hrun, hend, Or.inr ⟨T.heap.size, rfl, cls, ce, locs, hx U hWs.alike f1 (fun q hq => f2 q hq (fun z hz => nomatch hz)), hce, hO.vm, hcl, hWs, hall, hf⟩⟩
  refine st1 _ ?_
  show Steps p.tables e below (T1.setTop { method := m, pc := pc + 3, locals := ls, stack := .ref T.heap.size :: rest, locked := none }) _
  jvm_step X₁.here [X₁.here.top, hexec, d3', Value.category]
  exact X₁.ldcString hexec (own := own) (text := text) (index := is) (a := sa) hown' hstr'.1 hstr'.2
    (g := { method := m, pc := pc + 4, locals := ls, stack := .ref T.heap.size :: .ref T.heap.size :: rest, locked := none }) rfl d4' _ hsteps
/-- 'throw new E("text")', the text by a wide index -/
theorem vx_throwSW {cc : ByteArray} {pc : Nat} (hexec : p.tables.exec = Jvm.exec) (hb : c.code = cc) (hl : l.stackTraces = false) {own cls text : String} {names : List String} {ik is ic mc ms sa : Nat} {A : Nat → Prop}
    (hown : s.vm.findClass own = some m.cls) (hcls : Bundle.fit cls = true) (hnames : ∀ n ∈ names, Bundle.fit n = true)
    (hk : (Cond.classLink own ik cls).before args s = true) (hini : (Cond.initialized cls).before args s = true) (hstr : vk_R own is text sa s) (hat : ∀ w ∈ vx_atS own ic cls names, w.before args s = true)
    (hgood : ∀ w ∈ Cond.classLink own ik cls :: Cond.initialized cls :: vx_atS own ic cls names, vx_ot w = true)
    (hU : vx_Zq Bundle.tN "UNASSIGNED_STACK" Bundle.steD A s s.heap) (hN : vx_Zq Bundle.tN "SUPPRESSED_SENTINEL" Bundle.listD A s s.heap) (hS : va_S A s.heap H locs) (hsize : ls.size = c.maxLocals)
    (d0 : decode cc pc = .ok (.new ik, 3)) (d3 : decode cc (pc + 3) = .ok (.dup, 1)) (d4 : decode cc (pc + 4) = .ok (.ldc_w is, 3)) (d7 : decode cc (pc + 7) = .ok (.invokespecial ic, 3)) (d10 : decode cc (pc + 10) = .ok (.athrow, 1))
    (hout : ∀ x ∈ c.exceptionTable.toList, covers x (pc + 10) = false)
    (hRframes : names.length + 3 < R.frames) (hRlocals : (rest.map fun v => v.category).sum + (13 * (names.length + 1) + 43) ≤ R.locals) (hRcells : cells + 1 ≤ R.cells) (hRslots : slots + 6 ≤ R.slots) (hlocks : meth.locks = false)
    (hx : ∀ t : State, s.vm.Alike t.vm → H.size ≤ t.heap.size → (∀ q : Nat, q < H.size → t.heap[q]? = H[q]?) → XC cls s t)
    (hf : ∀ z ∈ locs, free z.base) (hc : cells + 1 ≤ mc) (hs : slots + 6 ≤ ms) :
    W p l e R s m args below meth c H locs cells slots (vx_MQ below Qc XC args s mc ms free) (F0 m pc ls rest) := by
  intro T hT X
  have htr : e.platform.stackTraces = false := (show e.platform.stackTraces = l.stackTraces by rw [X.admits.platform]).trans hl
  have Y := vx_rebase X (R' := { frames := R.frames, locals := R.locals, cells := 1, slots := 6 }) (Nat.le_refl _) (Nat.le_refl _) hRcells hRslots
  obtain ⟨s', hA⟩ : ∃ z, z = (T.setVm s.vm).setFrames (.invoking m args :: below) := ⟨_, rfl⟩
  rw [← hA] at Y
  have hvm : s'.vm = s.vm := by rw [hA]; rfl
  have hhp : s'.heap = H := by rw [hA]; exact hT
  have hW0 : s.WarmedH s'.vm := by rw [hvm]; exact State.WarmedH.refl s
  have hat' : ∀ w ∈ vx_atS own ic cls names, w.before args s' = true := fun w hw => vx_ot_at hW0 hvm.symm (hgood w (List.mem_cons_of_mem _ (List.mem_cons_of_mem _ hw))) (hat w hw)
  have hk' : (Cond.classLink own ik cls).before args s' = true := vx_ot_at hW0 hvm.symm (hgood _ List.mem_cons_self) hk
  have hini' : (Cond.initialized cls).before args s' = true := vx_ot_at hW0 hvm.symm (hgood _ (List.mem_cons_of_mem _ List.mem_cons_self)) hini
  have hU' : vx_Zq Bundle.tN "UNASSIGNED_STACK" Bundle.steD A s' s'.heap := by rw [hhp]; exact vx_Zq.moved hW0.alike (hU.kept hS.2.1)
  have hN' : vx_Zq Bundle.tN "SUPPRESSED_SENTINEL" Bundle.listD A s' s'.heap := by rw [hhp]; exact vx_Zq.moved hW0.alike (hN.kept hS.2.1)
  have h : ∀ w ∈ Bundle.ownAtoms own ic cls names, w.before args s' = true := vx_own hat' (vx_isRefq hU'.1) (vx_isRefq hN'.1) hU'.2.word hN'.2.word
  have hown' : s'.vm.findClass own = some m.cls := by rw [hvm]; exact hown
  have hins : (Cond.instantiable cls 6).before args s' = true := h _ (by simp [Bundle.ownAtoms])
  obtain ⟨vm₁, cX, kX, hfX, hkX, -, -, X₁, st1⟩ := Y.newCold hexec (own := own) (C := cls) (index := ik) (n := 6) hown' hk' hins hini'
    (g := F0 m pc ls rest) rfl (by rw [hb]; exact d0) (Nat.le_refl _) (Nat.le_refl _)
  generalize hT1 : (T.setVm vm₁).pushCell { cls := cX, slots := kX.instanceTypes.map defaultValue, vm := .none } = T1 at X₁ st1
  have hcat : (Value.ref T.heap.size).category = 1 := rfl
  have hcellA : T1.heap[T.heap.size]? = some (freshCell cX kX) := by rw [← hT1]; exact State.heap_pushCell_size _ _
  have d3' : decode c.code (pc + 3) = .ok (.dup, 1) := by rw [hb]; exact d3
  have d4' : decode c.code (pc + 4) = .ok (.ldc_w is, 3) := by rw [hb]; exact d4
  have hstr' : vk_R own is text sa s' := vk_R.warm hW0 hstr
  obtain ⟨U, hsteps, hrun, hend, hW, hsame, ce, hce, hO⟩ := X₁.ctorThrowS hexec htr (own := own) (cls := cls) (names := names) (ic := ic) hown' hcls hnames h (fun x hx => nomatch hx) hfX hkX hcellA (by rw [hhp, hT]; exact Nat.le_refl _) (msg := .ref sa) rfl
    (g := { method := m, pc := pc + 7, locals := ls, stack := .ref sa :: .ref T.heap.size :: .ref T.heap.size :: rest, locked := none }) rfl hsize rfl rfl (rest := rest) rfl
    (by rw [hb]; exact d7) (by rw [hb]; exact d10) hout hRframes (by simp only [List.map_cons, List.sum_cons, hcat]; omega) hlocks
  obtain ⟨f1, f2⟩ := vx_frame hsame
  rw [hhp] at f1 f2
  have hWs : s.WarmedH U.vm := State.WarmedH.trans hW0 hW
  have hcl : s.vm.findClass cls = some ce.cls := by
    have h9 := hO.cls
    rw [hvm] at h9
    exact h9
  have hall : s.sameButNew ({ U with vm := s.vm } : State) locs mc ms := by
    subst hA
    obtain ⟨e1, e2⟩ := hsame
    rw [State.setFrames_setFrames] at e1
    have h2 : (T.setVm s.vm).sameButNew ({ U with vm := s.vm } : State) [] (0 + 1) (0 + 6) := ⟨e1, e2⟩
    have h3 := X.same.trans h2
    rw [List.append_nil] at h3
    exact h3.mono hc hs
  refine ⟨U, ?_, .threw T.heap.size, hrun, hend, Or.inr ⟨T.heap.size, rfl, cls, ce, locs, hx U hWs.alike f1 (fun q hq => f2 q hq (fun z hz => nomatch hz)), hce, hO.vm, hcl, hWs, hall, hf⟩⟩
  refine st1 _ ?_
  show Steps p.tables e below (T1.setTop { method := m, pc := pc + 3, locals := ls, stack := .ref T.heap.size :: rest, locked := none }) _
  jvm_step X₁.here [X₁.here.top, hexec, d3', Value.category]
  exact X₁.ldcStringW hexec (own := own) (text := text) (index := is) (a := sa) hown' hstr'.1 hstr'.2
    (g := { method := m, pc := pc + 4, locals := ls, stack := .ref T.heap.size :: .ref T.heap.size :: rest, locked := none }) rfl d4' _ hsteps
end Ends
section Bodies
variable {l : Launch}
theorem vx_ofW {y : MethodName} {ws ws' : List Cond} {rm : Room} {Pc : Array Value → State → Prop} {Qc : Array Value → State → Outcome → State → Prop} {XC : String → State → State → Prop} {mc ms : Nat} {free : Addr → Prop} {cc : ByteArray} {maxL : Nat} {ret : Option FieldType}
    (hy : plainName y.cls = true) (hw : ws = Cond.code y cc maxL ret :: ws')
    (body : ∀ p e s m args below meth c s₁, BodyLoose p l y (headSpec ws rm) cc maxL ret e s m args below meth c s₁ → c.maxLocals = maxL → (∀ x ∈ c.exceptionTable.toList, False) → Pc args s →
      W p l e (headSpec ws rm).room s m args below meth c s.heap [] 0 0 (vx_MQ below Qc XC args s mc ms free) (entryFrame m args maxL)) : vx_Met l y ws rm Pc Qc XC mc ms free := by
  refine MetFree.of_bodyS (code := cc) (maxLocals := maxL) (ret := ret) hy ?_ ?_
  · intro args s m h hn
    obtain ⟨meth, c, h1, h2, h3, h4, h5, h6, -, -⟩ := Cond.code_spec hn (atoms_spec (ws := ws) h _ (by rw [hw]; exact List.mem_cons_self))
    exact ⟨meth, c, h1, h2, h3, h4, h5, h6⟩
  · intro p e s m args below meth c s₁ B hml hP _
    have hh0 : s₁.heap = s.heap := by rw [B.state]; rfl
    have ht : ∀ x ∈ c.exceptionTable.toList, False := by
      obtain ⟨meth9, c9, h1, h2, -, -, -, -, h7, -⟩ := Cond.code_spec B.named (atoms_spec (ws := ws) B.pre _ (by rw [hw]; exact List.mem_cons_self))
      cases Option.some.inj (h1.symm.trans B.method)
      cases Option.some.inj (h2.symm.trans (Stand.of_body B).code)
      intro x hx
      rw [Array.isEmpty_iff.mp h7] at hx
      cases hx
    obtain ⟨t, a1, o, b1, b2, b3⟩ := body p e s m args below meth c s₁ B hml ht hP s₁ hh0 (Stand.of_body B)
    exact ⟨t, o, a1, b1, b2, b3⟩
/-- the table of a body with handlers -/
theorem vx_table {p : Program} {x y : MethodName} {S : Spec} {cc bytes : ByteArray} {maxL maxL' : Nat} {ret ret' : Option FieldType} {e : Env} {s s₁ : State} {m : MethodId} {args : Array Value} {below : List Frame} {meth : Method} {c : Code} {hh : List (Nat × Nat × Nat × Nat)}
    (B : BodyLoose p l y S cc maxL ret e s m args below meth c s₁) (h : (Cond.codeWith y bytes maxL' ret' hh).before args s = true) : c.exceptionTable.toList = tableOf hh := by
  obtain ⟨m9, meth9, c9, hn9, h1, h2, -, -, h6, -⟩ := Cond.codeWith_spec h
  cases Option.some.inj (hn9.symm.trans B.named)
  cases Option.some.inj (h1.symm.trans B.method)
  cases Option.some.inj (h2.symm.trans (Stand.of_body B).code)
  rw [← h6, table_eq]
end Bodies
end VXA
/-! ===== END ===== -/
/-! ===== BEGIN a static call of a method with an exception table ===== -/
section VXS
variable {p : Program} {l : Launch} {e : Env} {R : Room} {s : State} {m : MethodId} {args : Array Value} {below : List Frame} {meth : Method} {c : Code} {T : State} {H : Heap} {locs : List Loc} {cells slots : Nat}
abbrev vx_CSW (R : Room) (s : State) (args : Array Value) (own : String) (index : Nat) (y : MethodName) (bytes : ByteArray) (maxL : Nat) (ret : Option FieldType) (hh : List (Nat × Nat × Nat × Nat)) (ws : List Cond) (rm : Room) (mc ms n : Nat) : Prop :=
  (rm.cells = mc ∧ rm.slots = ms ∧ rm.frames + 1 ≤ R.frames ∧ 8 + (maxL + 11) + rm.locals ≤ R.locals ∧ (∀ w ∈ ws, ∀ (a' : Array Value) (U : State), s.WarmedH U.vm → w.before a' U = true) ∧ Cond.codeWith y bytes maxL ret hh ∈ ws) ∧
  (Cond.codeWith y bytes maxL ret hh).before args s = true ∧ (Cond.initialized y.cls).before args s = true ∧ (y.cls ≠ "java/lang/invoke/MethodHandle" ∧ y.cls ≠ "java/lang/invoke/VarHandle") ∧
  (∀ sig, parseMethodDescriptor y.desc = some sig → n = sig.parameters.length) ∧ (Cond.methodLink own index y).before args s = true ∧ (Cond.static y).before args s = true
theorem vx_cwSW {own : String} {index maxL mc ms : Nat} {y : MethodName} {bytes : ByteArray} {ret : Option FieldType} {hh : List (Nat × Nat × Nat × Nat)} {Ts ws ws' : List Cond} {rm : Room} (n : Nat) (ht : ∀ w ∈ Ts, w.before args s = true) (hT : GoodIn Ts (va_wsS own index y ws)) (hw : ws = Cond.codeWith y bytes maxL ret hh :: ws') (hrc : rm.cells = mc) (hrs : rm.slots = ms)
    (hd : y.cls ≠ "java/lang/invoke/MethodHandle" ∧ y.cls ≠ "java/lang/invoke/VarHandle" ∧ (parseMethodDescriptor y.desc).map (fun d => d.parameters.length) = some n) (hR : rm.frames + 1 ≤ R.frames ∧ 8 + (maxL + 11) + rm.locals ≤ R.locals) :
    vx_CSW R s args own index y bytes maxL ret hh ws rm mc ms n := by
  have ok : ∀ w ∈ va_wsS own index y ws, w.before args s = true := fun w h => ht w (hT w h).1
  have hG : GoodIn Ts ws := fun w h => hT w (by unfold va_wsS; exact List.mem_append_right _ h)
  have hc : Cond.codeWith y bytes maxL ret hh ∈ ws := by rw [hw]; exact List.mem_cons_self
  refine ⟨⟨hrc, hrs, hR.1, hR.2, pay_in ht hG, hc⟩, ht _ (hG _ hc).1, ok _ (by simp [va_wsS]), ⟨hd.1, hd.2.1⟩, fun sig h => ?_, ok _ (by simp [va_wsS]), ok _ (by simp [va_wsS])⟩
  have h2 := hd.2.2
  rw [h] at h2
  exact (Option.some.inj h2).symm
theorem vx_callSW (X : Stand p l e R s m args below meth c T locs cells slots) (hexec : p.tables.exec = Jvm.exec) {own : String} {index : Nat} {y : MethodName} {bytes : ByteArray} {maxL : Nat} {ret : Option FieldType} {hh : List (Nat × Nat × Nat × Nat)}
    (hown : s.vm.findClass own = some m.cls) (hlink : (Cond.methodLink own index y).before args s = true) (hstat : (Cond.static y).before args s = true) (hinit : (Cond.initialized y.cls).before args s = true)
    (hcode : (Cond.codeWith y bytes maxL ret hh).before args s = true) (hy : y.cls ≠ "java/lang/invoke/MethodHandle" ∧ y.cls ≠ "java/lang/invoke/VarHandle")
    {W9 : Nat} {Pre : Pt → Array Value → Prop} {Post : Pt → Array Value → Option Value → Pt → Prop} (hK : Back l R p e below s args y 3 W9 Pre Post)
    {g : JFrame} (hg : g.method = m) (hsize : g.locals.size = c.maxLocals) {argsL rest : List Value} (hlen : ∀ sig, parseMethodDescriptor y.desc = some sig → argsL.length = sig.parameters.length)
    (hstack : g.stack = argsL.reverse ++ rest) (hW : 2 * g.monitorRoom + (rest.map fun v => v.category).sum ≤ W9) (hdg : decode c.code g.pc = .ok (.invokestatic index, 3))
    (hpre : ∀ vm₁, s.WarmedH vm₁ → Pre ⟨T.setVm vm₁, locs, cells, slots⟩ argsL.toArray) :
    ∃ (v : Option Value) (vm₁ : Vm) (B : Pt), s.WarmedH vm₁ ∧ Stand p l e R s m args below meth c B.U B.locs B.cells B.slots ∧ Post ⟨T.setVm vm₁, locs, cells, slots⟩ argsL.toArray v B ∧
      ∀ target, Steps p.tables e below (B.U.setTop { g with pc := g.pc + 3, stack := v.toList ++ rest }) target → Steps p.tables e below (T.setTop g) target := by
  obtain ⟨mk, methM, cM, hnamed, hmethM, -, -, -, -, -, -, hsigM⟩ := Cond.codeWith_spec hcode
  have hstatic : methM.isStatic = true := Cond.static_spec hnamed hmethM hstat
  obtain ⟨kP, hkP, -⟩ := className_of_methodNamed hnamed
  have hinitP : kP.init = .initialized := Cond.initialized_spec (findClass_of_methodNamed hnamed) hkP hinit
  obtain ⟨vm₁, X₁, hstep₁⟩ := X.invokestatic hexec hown hlink hnamed hmethM hstatic hkP hinitP hy (g := g) hg (argsL := argsL) (rest := rest) (hlen _ hsigM) hstack hdg
  obtain ⟨v, B, X', hpost, hsteps⟩ := hK m meth c ⟨T.setVm vm₁, locs, cells, slots⟩ { g with stack := rest } (.invokestatic index) mk argsL.toArray X₁ hg hsize hdg hW (X₁.named hnamed) (hpre vm₁ X₁.warmed)
  exact ⟨v, vm₁, B, X₁.warmed, X', hpost, fun target h => hstep₁ _ fun acts => by rw [doInvoke_state]; exact hsteps.trans h⟩
theorem vx_runSW {y : MethodName} {bytes cc : ByteArray} {maxL nL mc ms n index : Nat} {ret : Option FieldType} {hh : List (Nat × Nat × Nat × Nat)} {ws : List Cond} {rm : Room} {Pc : Array Value → State → Prop} {Qc : Array Value → State → Outcome → State → Prop} {free : Addr → Prop} {Ts : List Cond} {own : String} {As rest : List Value} {g : JFrame}
    (S : CallFix p m c cc nL s args Ts own) (hM : Met l y ws rm Pc Qc mc ms free) (cw : vx_CSW R s args own index y bytes maxL ret hh ws rm mc ms n) (hp : PreS s H Pc As)
    (hg : g.method = m) (hn : As.length = n) (hsize : g.locals.size = nL) (hstack : g.stack = As.reverse ++ rest) (hW : 2 * g.monitorRoom + (rest.map fun v => v.category).sum ≤ 8) (hdg : decode cc g.pc = .ok (.invokestatic index, 3)) (hf : cells + mc ≤ R.cells ∧ slots + ms ≤ R.slots) :
    va_Run p l e R s m args below meth c H locs cells slots mc ms g rest (Qc As.toArray) (free) := by
  obtain ⟨⟨hrc, hrs, hfr, hlo, hws, hcw⟩, hcode, hini, hy, hlen, hl, hstt⟩ := cw
  have hK : Back l R p e below s args y 3 8 (PreOf R mc ms Pc) (PostOf Qc mc ms free) := va_backW (hh := hh) (bytes := bytes) (maxL := maxL) (ret := ret) hM hp.1 hrc hrs hfr hlo hws hcw (fun a' U hW => word_at hW (Or.inl (by first | rfl | simp [Cond.onTables, Cond.keeps, Cond.steady])) hini)
  obtain ⟨hx, hb, hml, ho, -⟩ := S
  intro T hT X
  obtain ⟨v, vm₁, ⟨U', l2, c2, s2⟩, hW₁, X', ⟨g', mk, t, L, e1, e2, hq, h1, hL, h2, h3⟩, st⟩ := vx_callSW X hx (hh := hh) (bytes := bytes) (maxL := maxL) (ret := ret) ho hl hstt hini hcode hy hK hg (hsize.trans hml.symm) (argsL := As) (rest := rest) (fun sig h => hn.trans (hlen sig h)) hstack hW (by rw [hb]; exact hdg)
    (fun vm₁ hW₁ => ⟨hf.1, hf.2, hp.2 (T.setVm vm₁) hT hW₁⟩)
  dsimp only [Pt.U, Pt.locs, Pt.cells, Pt.slots] at X' e1 e2 h1 h2 h3 st
  subst h1; subst h2; subst h3
  exact ⟨v, (T.setVm vm₁).calling g' mk As.toArray, t, U', L, hT, X', hL, e1, e2, hq, st⟩
/-- not caught here, past rows that name other classes: it goes on to the caller -/
theorem vx_outP {p : Program} {l : Launch} {e : Env} {R : Room} {s : State} {m : MethodId} {args : Array Value} {below : List Frame} {meth : Method} {c : Code} {H : Heap} {locs : List Loc} {cells slots : Nat} {free : Addr → Prop} {ls : Array Slot} {rest : List Value} {Qc : Array Value → State → Outcome → State → Prop} {XC : String → State → State → Prop}
    {pc : Nat} {own E : String} {ce : Cell} {q : Addr} {mc ms : Nat} (hown : s.vm.findClass own = some m.cls) (hlocks : meth.locks = false)
    (hpass : ∀ z ∈ c.exceptionTable.toList, covers z pc = false ∨ (z.catchType ≠ 0 ∧ ∃ nm : String, (Cond.classLink own z.catchType nm).before args s = true ∧ va_Nc E nm s)) (hcell : H[q]? = some ce) (hv : ce.vm = .none) (hcl : s.vm.findClass E = some ce.cls)
    (hx : ∀ t : State, t.heap = H → s.vm.Alike t.vm → XC E s t) (hf : ∀ z ∈ locs, free z.base) (hc : cells ≤ mc) (hs : slots ≤ ms) :
    vx_W p l e R s m args below meth c H locs cells slots (vx_MQ below Qc XC args s mc ms free) (F0 m pc ls rest) q := by
  intro T hT X
  have hpl : e.platform.magicAccessors = ({} : Platform).magicAccessors := by rw [X.admits.platform]
  obtain ⟨vm', hW', X', st⟩ := X.outThrough hlocks q (g := F0 m pc ls rest) rfl rfl rfl (cell := ce) (by rw [hT]; exact hcell) (by rw [hv]; rfl)
    (by obtain ⟨k9, h9, -⟩ := Vm.findClass_spec hcl; exact ⟨k9, h9⟩) (fun z hz => by
      rcases hpass z hz with h | ⟨hz0, nm, hl1, hn1⟩
      · exact Or.inl h
      · obtain ⟨c6, hc6, hcl6⟩ := Cond.classLink_spec hown hl1 e.platform hpl
        obtain ⟨a8, b8, h1, h2, h3⟩ := hn1
        cases Option.some.inj (h1.symm.trans hcl)
        cases Option.some.inj (h2.symm.trans hc6)
        exact Or.inr ⟨hz0, _, hcl6, h3⟩)
  obtain ⟨g₀, hfr⟩ := X'.frames_eq
  have hcell9 : ((T.setVm vm').setFrames (.throwing q :: below)).heap[q]? = some ce := by
    show T.heap[q]? = some ce
    rw [hT]; exact hcell
  have hend : Ended ((T.setVm vm').setFrames (.throwing q :: below)) below (.threw q) := State.frames_setFrames _ (State.cur_lt_of_frames hfr)
  refine ⟨(T.setVm vm').setFrames (.throwing q :: below), ?_, .threw q, X'.here.running, hend, Or.inr ⟨q, rfl, E, ce, locs, hx _ hT (X'.ends _).1.alike, hcell9, hv, hcl, (X'.ends _).1, (X'.ends _).2.mono hc hs, hf⟩⟩
  rw [X.pushThrowing_eq]
  exact st
/-- a thing of a world lies in the heap -/
theorem vx_lt {D : va_G} {cl : List vw_C} {ws : va_W} {H1 : Heap} (h : va_P D cl ws H1) {k : Nat} {q : Nat × va_E} (hk : ws[k]? = some q) : q.1 < H1.size := (h k q hk).lt
end VXS
/-! ===== END ===== -/
/-! ===== BEGIN methods with a table of their own: called by a name, returning or throwing ===== -/
section VXH
/-! vx_backW, vx_callVX, vx_callSX, vx_callVW, vx_runVW, vx_runVX, vx_runSX, vx_ofWH follow the same proofs as their sisters above (Free/Laws.lean, Shelf42/LK1.lean); vx_outP calls Shelf42/NT130.lean (outThrough). -/
section
variable {l : Launch} {R : Room} {p : Program} {e : Env} {below : List Frame} {s : State} {sargs : Array Value} {y : MethodName} {len W9 : Nat}
theorem vx_backW {ws : List Cond} {rm : Room} {Pc : Array Value → State → Prop} {Qc : Array Value → State → Outcome → State → Prop} {XC : String → State → State → Prop} {mc ms : Nat} {free : Addr → Prop} {bytes : ByteArray} {maxL : Nat} {ret : Option FieldType} {hh : List (Nat × Nat × Nat × Nat)}
    (hM : vx_Met l y ws rm Pc Qc XC mc ms free) (hblind : FrameBlind Pc) (hrc : rm.cells = mc) (hrs : rm.slots = ms)
    (hframes : rm.frames + 1 ≤ R.frames) (hlocals : W9 + (maxL + 11) + rm.locals ≤ R.locals)
    (hws : ∀ w ∈ ws, ∀ a' U, s.WarmedH U.vm → w.before a' U = true) (hcode : Cond.codeWith y bytes maxL ret hh ∈ ws) (hinit : ∀ a' U, s.WarmedH U.vm → (Cond.initialized y.cls).before a' U = true) :
    vx_Back l R p e below s sargs y len W9 (PreOf R mc ms Pc) (PostOf Qc mc ms free) (vx_Post XC mc ms free) := by
  intro m meth c A g ig mk a X hg hsize hdg hW hn hp
  have h1 : (headSpec ws rm).pre.before a A.U = true := atoms_intro fun w hw => hws w hw _ _ X.warmed
  have h2 : (Cond.codeWith y bytes maxL ret hh).before a A.U = true := hws _ hcode _ _ X.warmed
  have h3 : (Cond.initialized y.cls).before a A.U = true := hinit _ _ X.warmed
  have h4 : A.cells + (headSpec ws rm).room.cells ≤ R.cells := by rw [show (headSpec ws rm).room.cells = mc from hrc]; exact hp.1
  have h5 : A.slots + (headSpec ws rm).room.slots ≤ R.slots := by rw [show (headSpec ws rm).room.slots = ms from hrs]; exact hp.2.1
  have hPc : Pc a (A.U.calling g mk a) := hblind _ _ _ _ hp.2.2
  obtain ⟨U, Ls, c0, s0⟩ := A
  dsimp only [Pt.U, Pt.locs, Pt.cells, Pt.slots] at h1 h2 h3 h4 h5 X hn hPc ⊢
  obtain ⟨m9, methY, cY, hn9, hmY, hcY, -, hlY, -⟩ := Cond.codeWith_spec h2
  cases Option.some.inj (hn9.symm.trans hn)
  obtain ⟨kY, hkY, -⟩ := className_of_methodNamed hn
  have hinitY : kY.init = .initialized := Cond.initialized_spec (findClass_of_methodNamed hn) hkY h3
  have h : At U g.method c below := by rw [hg]; exact X.here
  have hlocals9 : W9 + (maxL + 11) + (headSpec ws rm).room.locals ≤ R.locals := hlocals
  have happ : (headSpec ws rm).appliesLoose y e.platform (U.calling g mk a) = true :=
    Spec.appliesLoose_calling (g := g) h hdg hn hkY hinitY
      (X.room_calling (g := g) (R' := (headSpec ws rm).room) hsize hmY hcY hframes (by rw [hlY]; omega) h4 h5) h1
  obtain ⟨mid, hmid⟩ := h.above
  have hfr : (U.setTop g).frames = (.java g :: mid) ++ below := by rw [State.frames_setTop' g h.top, hmid]; rfl
  obtain ⟨o, s₂, hsteps, -, hend, hq⟩ := Steps.callFree hM p X.admits X.cas X.clock (acts := []) hfr happ hPc trivial
  have hq' : vx_Q Qc XC mc ms free a (U.calling g mk a) o s₂ := hq
  rw [State.frames_setTop' g h.top] at hend
  obtain ⟨g₀, hg0⟩ := Option.isSome_iff_exists.mp h.top
  obtain ⟨r, hr⟩ := State.topJava?_eq_some.mp hg0
  have hr' : (({ U with heap := s₂.heap, slotsUsed := s₂.slotsUsed } : State).setVm s₂.vm).frames = .java g₀ :: r := hr
  rcases hq' with ⟨hqc, L, hfe, hL⟩ | ⟨q, rfl, E, ce, L, hx, hce, hcv, hcl, hW₂, hsm, hL⟩
  · obtain ⟨⟨v, rfl⟩, hW₂, e2, q2, q3, q4, q5, q6⟩ := id hfe
    have e3 : s₂ = ({ (U.calling g mk a).setFrames s₂.frames with heap := s₂.heap, slotsUsed := s₂.slotsUsed } : State).setVm s₂.vm := by
      have : s₂ = ({ s₂ with vm := (U.calling g mk a).vm } : State).setVm s₂.vm := rfl
      rw [e2] at this
      exact this
    obtain ⟨c₂, i₂, len₂, hc₂, hd₂, hf₂⟩ := hend
    have hW' : U.WarmedH s₂.vm := hW₂
    have hcc : c₂ = c := by
      have h1 : s₂.code? g.method = U.code? g.method := by
        rw [State.code?_eq, State.code?_eq, hW'.alike.method?]
      exact Option.some.inj (hc₂.symm.trans (h1.trans h.code))
    subst hcc
    have hlen : len₂ = len := by rw [hdg] at hd₂; cases hd₂; rfl
    subst hlen
    have hs₂ : s₂ = (({ U with heap := s₂.heap, slotsUsed := s₂.slotsUsed } : State).setVm s₂.vm).setTop { g with pc := g.pc + len₂, stack := v.toList ++ g.stack } := by
      refine e3.trans ?_
      rw [hf₂, State.calling_eq h.top, State.setFrames_setFrames, State.setTop_of_frames _ hr', hr]
      rfl
    have hsame : U.sameButNew ({ U with heap := s₂.heap, slotsUsed := s₂.slotsUsed } : State) L mc ms := by
      refine ⟨?_, q2, q3, q4, q5, q6⟩
      obtain ⟨t, ht, -⟩ := State.frames_cons hr
      show ({ U with heap := s₂.heap, slotsUsed := s₂.slotsUsed } : State) = { U.setFrames U.frames with heap := s₂.heap, slotsUsed := s₂.slotsUsed }
      rw [State.setFrames_self ht]
    subst hg
    refine Or.inl ⟨v, ⟨(({ U with heap := s₂.heap, slotsUsed := s₂.slotsUsed } : State).setVm s₂.vm), Ls ++ L, c0 + mc, s0 + ms⟩,
      ⟨X.admits, X.cas, X.clock, X.frames, X.room, X.hears, X.method, X.code, (X.here.setHeapUsed s₂.heap s₂.slotsUsed).setVm hW'.alike, X.tail, State.WarmedH.trans X.warmed hW', X.limits, X.bytes, X.same.trans (hsame.setVm s.vm)⟩,
      ⟨g, mk, s₂, L, rfl, rfl, hqc, rfl, hL, rfl, rfl⟩, ?_⟩
    show Steps p.tables e below _ ((({ U with heap := s₂.heap, slotsUsed := s₂.slotsUsed } : State).setVm s₂.vm).setTop { g with pc := g.pc + len₂, stack := v.toList ++ g.stack })
    rw [← hs₂]
    exact hsteps
  · obtain ⟨e2, q2, q3, q4, q5, q6⟩ := id hsm
    have e3 : s₂ = ({ (U.calling g mk a).setFrames s₂.frames with heap := s₂.heap, slotsUsed := s₂.slotsUsed } : State).setVm s₂.vm := by
      have : s₂ = ({ s₂ with vm := (U.calling g mk a).vm } : State).setVm s₂.vm := rfl
      rw [e2] at this
      exact this
    have hf₂ : s₂.frames = .throwing q :: .java g :: U.frames.tail := hend
    have hW' : U.WarmedH s₂.vm := hW₂
    have hs₂ : s₂ = ((({ U with heap := s₂.heap, slotsUsed := s₂.slotsUsed } : State).setVm s₂.vm).setTop g).pushFrame (.throwing q) := by
      refine e3.trans ?_
      rw [hf₂, State.calling_eq h.top, State.setFrames_setFrames, State.pushFrame, State.frames_setTop _ hr', State.setTop_of_frames _ hr', State.setFrames_setFrames, hr]
      rfl
    have hsame : U.sameButNew ({ U with heap := s₂.heap, slotsUsed := s₂.slotsUsed } : State) L mc ms := by
      refine ⟨?_, q2, q3, q4, q5, q6⟩
      obtain ⟨t, ht, -⟩ := State.frames_cons hr
      show ({ U with heap := s₂.heap, slotsUsed := s₂.slotsUsed } : State) = { U.setFrames U.frames with heap := s₂.heap, slotsUsed := s₂.slotsUsed }
      rw [State.setFrames_self ht]
    subst hg
    refine Or.inr ⟨q, ⟨(({ U with heap := s₂.heap, slotsUsed := s₂.slotsUsed } : State).setVm s₂.vm), Ls ++ L, c0 + mc, s0 + ms⟩,
      ⟨X.admits, X.cas, X.clock, X.frames, X.room, X.hears, X.method, X.code, (X.here.setHeapUsed s₂.heap s₂.slotsUsed).setVm hW'.alike, X.tail, State.WarmedH.trans X.warmed hW', X.limits, X.bytes, X.same.trans (hsame.setVm s.vm)⟩,
      ⟨g, mk, s₂, L, E, ce, rfl, rfl, hx, hce, hcv, hcl, rfl, hL, rfl, rfl⟩, ?_⟩
    show Steps p.tables e below _ (((({ U with heap := s₂.heap, slotsUsed := s₂.slotsUsed } : State).setVm s₂.vm).setTop g).pushFrame (.throwing q))
    rw [← hs₂]
    exact hsteps
end
variable {p : Program} {l : Launch} {e : Env} {R : Room} {s : State} {m : MethodId} {args : Array Value} {below : List Frame} {meth : Method} {c : Code} {T : State} {H : Heap} {locs : List Loc} {cells slots : Nat}
theorem vx_callVX (X : Stand p l e R s m args below meth c T locs cells slots) (hexec : p.tables.exec = Jvm.exec) {own C : String} {index : Nat} {y : MethodName} {bytes : ByteArray} {maxL : Nat} {ret : Option FieldType} {hh : List (Nat × Nat × Nat × Nat)}
    (hown : s.vm.findClass own = some m.cls) (hlink : (Cond.methodLink own index y).before args s = true) (hinst : (Cond.instanceMethod y).before args s = true) (hsel : (Cond.selects C y y).before args s = true)
    (hcode : (Cond.codeWith y bytes maxL ret hh).before args s = true) (hy : y.cls ≠ "java/lang/invoke/MethodHandle" ∧ y.cls ≠ "java/lang/invoke/VarHandle")
    {W9 : Nat} {Pre : Pt → Array Value → Prop} {Post : Pt → Array Value → Option Value → Pt → Prop} {PostX : Pt → Array Value → Addr → Pt → Prop} (hK : vx_Back l R p e below s args y 3 W9 Pre Post PostX)
    {b : Addr} {cellB : Cell} (hcell : T.heap[b]? = some cellB) (hobj : cellB.vm.isStatics = false) (hcls : s.vm.findClass C = some cellB.cls)
    {g : JFrame} (hg : g.method = m) (hsize : g.locals.size = c.maxLocals) {argsL rest : List Value} (hlen : ∀ sig, parseMethodDescriptor y.desc = some sig → argsL.length = sig.parameters.length)
    (hstack : g.stack = argsL.reverse ++ .ref b :: rest) (hW : 2 * g.monitorRoom + (rest.map fun v => v.category).sum ≤ W9) (hdg : decode c.code g.pc = .ok (.invokevirtual index, 3))
    (hpre : ∀ vm₁, s.WarmedH vm₁ → Pre ⟨T.setVm vm₁, locs, cells, slots⟩ (Value.ref b :: argsL).toArray) :
    (∃ (v : Option Value) (vm₁ : Vm) (B : Pt), s.WarmedH vm₁ ∧ Stand p l e R s m args below meth c B.U B.locs B.cells B.slots ∧ Post ⟨T.setVm vm₁, locs, cells, slots⟩ (Value.ref b :: argsL).toArray v B ∧
      ∀ target, Steps p.tables e below (B.U.setTop { g with pc := g.pc + 3, stack := v.toList ++ rest }) target → Steps p.tables e below (T.setTop g) target) ∨
    (∃ (q : Addr) (vm₁ : Vm) (B : Pt), s.WarmedH vm₁ ∧ Stand p l e R s m args below meth c B.U B.locs B.cells B.slots ∧ PostX ⟨T.setVm vm₁, locs, cells, slots⟩ (Value.ref b :: argsL).toArray q B ∧
      Steps p.tables e below (T.setTop g) ((B.U.setTop { g with stack := rest }).pushFrame (.throwing q))) := by
  obtain ⟨mk, methM, hnamed, hmethM, hstM, habM⟩ := Cond.instanceMethod_spec hinst
  obtain ⟨m8, methM', cM, hn8, hmethM', -, -, -, -, -, -, hsigM⟩ := Cond.codeWith_spec hcode
  cases Option.some.inj (hn8.symm.trans hnamed)
  cases hmethM.symm.trans hmethM'
  obtain ⟨c2, r2, m2, q1, q2, q3, q4, kP, hkP, hkPi⟩ := Cond.selects_spec hsel
  cases hcls.symm.trans q1
  cases (State.methodFound?_of_named hnamed hy).symm.trans q2
  cases hnamed.symm.trans q3
  have hselP : selectMethod e.platform s.vm cellB.cls mk = .method mk := by rw [Launch.admits_selectMethod X.admits]; exact q4
  obtain ⟨vm₁, X₁, hstep₁⟩ := X.invokevirtual hexec hown hlink hnamed hmethM hstM hkP hkPi hy (a := b) (cell := cellB) hcell
    (fun z h => by rw [h] at hobj; cases hobj) hselP hmethM habM hkP hkPi (g := g) hg (argsL := argsL) (rest := rest) (hlen _ hsigM) hstack hdg
  rcases hK m meth c ⟨T.setVm vm₁, locs, cells, slots⟩ { g with stack := rest } (.invokevirtual index) mk (Value.ref b :: argsL).toArray X₁ hg hsize hdg hW (X₁.named hnamed) (hpre vm₁ X₁.warmed) with ⟨v, B, X', hpost, hsteps⟩ | ⟨q, B, X', hpost, hsteps⟩
  · exact Or.inl ⟨v, vm₁, B, X₁.warmed, X', hpost, fun target h => hstep₁ _ fun acts => by rw [doInvoke_state]; exact hsteps.trans h⟩
  · exact Or.inr ⟨q, vm₁, B, X₁.warmed, X', hpost, hstep₁ _ fun acts => by rw [doInvoke_state]; exact hsteps⟩
theorem vx_callSX (X : Stand p l e R s m args below meth c T locs cells slots) (hexec : p.tables.exec = Jvm.exec) {own : String} {index : Nat} {y : MethodName} {bytes : ByteArray} {maxL : Nat} {ret : Option FieldType} {hh : List (Nat × Nat × Nat × Nat)}
    (hown : s.vm.findClass own = some m.cls) (hlink : (Cond.methodLink own index y).before args s = true) (hstat : (Cond.static y).before args s = true) (hinit : (Cond.initialized y.cls).before args s = true)
    (hcode : (Cond.codeWith y bytes maxL ret hh).before args s = true) (hy : y.cls ≠ "java/lang/invoke/MethodHandle" ∧ y.cls ≠ "java/lang/invoke/VarHandle")
    {W9 : Nat} {Pre : Pt → Array Value → Prop} {Post : Pt → Array Value → Option Value → Pt → Prop} {PostX : Pt → Array Value → Addr → Pt → Prop} (hK : vx_Back l R p e below s args y 3 W9 Pre Post PostX)
    {g : JFrame} (hg : g.method = m) (hsize : g.locals.size = c.maxLocals) {argsL rest : List Value} (hlen : ∀ sig, parseMethodDescriptor y.desc = some sig → argsL.length = sig.parameters.length)
    (hstack : g.stack = argsL.reverse ++ rest) (hW : 2 * g.monitorRoom + (rest.map fun v => v.category).sum ≤ W9) (hdg : decode c.code g.pc = .ok (.invokestatic index, 3))
    (hpre : ∀ vm₁, s.WarmedH vm₁ → Pre ⟨T.setVm vm₁, locs, cells, slots⟩ argsL.toArray) :
    (∃ (v : Option Value) (vm₁ : Vm) (B : Pt), s.WarmedH vm₁ ∧ Stand p l e R s m args below meth c B.U B.locs B.cells B.slots ∧ Post ⟨T.setVm vm₁, locs, cells, slots⟩ argsL.toArray v B ∧
      ∀ target, Steps p.tables e below (B.U.setTop { g with pc := g.pc + 3, stack := v.toList ++ rest }) target → Steps p.tables e below (T.setTop g) target) ∨
    (∃ (q : Addr) (vm₁ : Vm) (B : Pt), s.WarmedH vm₁ ∧ Stand p l e R s m args below meth c B.U B.locs B.cells B.slots ∧ PostX ⟨T.setVm vm₁, locs, cells, slots⟩ argsL.toArray q B ∧
      Steps p.tables e below (T.setTop g) ((B.U.setTop { g with stack := rest }).pushFrame (.throwing q))) := by
  obtain ⟨mk, methM, cM, hnamed, hmethM, -, -, -, -, -, -, hsigM⟩ := Cond.codeWith_spec hcode
  have hstatic : methM.isStatic = true := Cond.static_spec hnamed hmethM hstat
  obtain ⟨kP, hkP, -⟩ := className_of_methodNamed hnamed
  have hinitP : kP.init = .initialized := Cond.initialized_spec (findClass_of_methodNamed hnamed) hkP hinit
  obtain ⟨vm₁, X₁, hstep₁⟩ := X.invokestatic hexec hown hlink hnamed hmethM hstatic hkP hinitP hy (g := g) hg (argsL := argsL) (rest := rest) (hlen _ hsigM) hstack hdg
  rcases hK m meth c ⟨T.setVm vm₁, locs, cells, slots⟩ { g with stack := rest } (.invokestatic index) mk argsL.toArray X₁ hg hsize hdg hW (X₁.named hnamed) (hpre vm₁ X₁.warmed) with ⟨v, B, X', hpost, hsteps⟩ | ⟨q, B, X', hpost, hsteps⟩
  · exact Or.inl ⟨v, vm₁, B, X₁.warmed, X', hpost, fun target h => hstep₁ _ fun acts => by rw [doInvoke_state]; exact hsteps.trans h⟩
  · exact Or.inr ⟨q, vm₁, B, X₁.warmed, X', hpost, hstep₁ _ fun acts => by rw [doInvoke_state]; exact hsteps⟩
theorem vx_callVW (X : Stand p l e R s m args below meth c T locs cells slots) (hexec : p.tables.exec = Jvm.exec) {own C : String} {index : Nat} {y : MethodName} {bytes : ByteArray} {maxL : Nat} {ret : Option FieldType} {hh : List (Nat × Nat × Nat × Nat)}
    (hown : s.vm.findClass own = some m.cls) (hlink : (Cond.methodLink own index y).before args s = true) (hinst : (Cond.instanceMethod y).before args s = true) (hsel : (Cond.selects C y y).before args s = true)
    (hcode : (Cond.codeWith y bytes maxL ret hh).before args s = true) (hy : y.cls ≠ "java/lang/invoke/MethodHandle" ∧ y.cls ≠ "java/lang/invoke/VarHandle")
    {W9 : Nat} {Pre : Pt → Array Value → Prop} {Post : Pt → Array Value → Option Value → Pt → Prop} (hK : Back l R p e below s args y 3 W9 Pre Post)
    {b : Addr} {cellB : Cell} (hcell : T.heap[b]? = some cellB) (hobj : cellB.vm.isStatics = false) (hcls : s.vm.findClass C = some cellB.cls)
    {g : JFrame} (hg : g.method = m) (hsize : g.locals.size = c.maxLocals) {argsL rest : List Value} (hlen : ∀ sig, parseMethodDescriptor y.desc = some sig → argsL.length = sig.parameters.length)
    (hstack : g.stack = argsL.reverse ++ .ref b :: rest) (hW : 2 * g.monitorRoom + (rest.map fun v => v.category).sum ≤ W9) (hdg : decode c.code g.pc = .ok (.invokevirtual index, 3))
    (hpre : ∀ vm₁, s.WarmedH vm₁ → Pre ⟨T.setVm vm₁, locs, cells, slots⟩ (Value.ref b :: argsL).toArray) :
    ∃ (v : Option Value) (vm₁ : Vm) (B : Pt), s.WarmedH vm₁ ∧ Stand p l e R s m args below meth c B.U B.locs B.cells B.slots ∧ Post ⟨T.setVm vm₁, locs, cells, slots⟩ (Value.ref b :: argsL).toArray v B ∧
      ∀ target, Steps p.tables e below (B.U.setTop { g with pc := g.pc + 3, stack := v.toList ++ rest }) target → Steps p.tables e below (T.setTop g) target := by
  obtain ⟨mk, methM, hnamed, hmethM, hstM, habM⟩ := Cond.instanceMethod_spec hinst
  obtain ⟨m8, methM', cM, hn8, hmethM', -, -, -, -, -, -, hsigM⟩ := Cond.codeWith_spec hcode
  cases Option.some.inj (hn8.symm.trans hnamed)
  cases hmethM.symm.trans hmethM'
  obtain ⟨c2, r2, m2, q1, q2, q3, q4, kP, hkP, hkPi⟩ := Cond.selects_spec hsel
  cases hcls.symm.trans q1
  cases (State.methodFound?_of_named hnamed hy).symm.trans q2
  cases hnamed.symm.trans q3
  have hselP : selectMethod e.platform s.vm cellB.cls mk = .method mk := by rw [Launch.admits_selectMethod X.admits]; exact q4
  obtain ⟨vm₁, X₁, hstep₁⟩ := X.invokevirtual hexec hown hlink hnamed hmethM hstM hkP hkPi hy (a := b) (cell := cellB) hcell
    (fun z h => by rw [h] at hobj; cases hobj) hselP hmethM habM hkP hkPi (g := g) hg (argsL := argsL) (rest := rest) (hlen _ hsigM) hstack hdg
  obtain ⟨v, B, X', hpost, hsteps⟩ := hK m meth c ⟨T.setVm vm₁, locs, cells, slots⟩ { g with stack := rest } (.invokevirtual index) mk (Value.ref b :: argsL).toArray X₁ hg hsize hdg hW (X₁.named hnamed) (hpre vm₁ X₁.warmed)
  exact ⟨v, vm₁, B, X₁.warmed, X', hpost, fun target h => hstep₁ _ fun acts => by rw [doInvoke_state]; exact hsteps.trans h⟩
abbrev vx_CVW (R : Room) (s : State) (args : Array Value) (own C : String) (index : Nat) (y : MethodName) (bytes : ByteArray) (maxL : Nat) (ret : Option FieldType) (hh : List (Nat × Nat × Nat × Nat)) (ws : List Cond) (rm : Room) (mc ms n : Nat) : Prop :=
  (rm.cells = mc ∧ rm.slots = ms ∧ rm.frames + 1 ≤ R.frames ∧ 8 + (maxL + 11) + rm.locals ≤ R.locals ∧ (∀ w ∈ ws, ∀ (a' : Array Value) (U : State), s.WarmedH U.vm → w.before a' U = true) ∧ Cond.codeWith y bytes maxL ret hh ∈ ws) ∧
  (Cond.codeWith y bytes maxL ret hh).before args s = true ∧ (Cond.initialized y.cls).before args s = true ∧ (y.cls ≠ "java/lang/invoke/MethodHandle" ∧ y.cls ≠ "java/lang/invoke/VarHandle") ∧
  (∀ sig, parseMethodDescriptor y.desc = some sig → n = sig.parameters.length) ∧ (Cond.methodLink own index y).before args s = true ∧ (Cond.instanceMethod y).before args s = true ∧ (Cond.selects C y y).before args s = true
theorem vx_cwVW {own C : String} {index maxL mc ms : Nat} {y : MethodName} {bytes : ByteArray} {ret : Option FieldType} {hh : List (Nat × Nat × Nat × Nat)} {Ts ws ws' : List Cond} {rm : Room} (n : Nat) (ht : ∀ w ∈ Ts, w.before args s = true) (hT : GoodIn Ts (wsV own index C y ws)) (hw : ws = Cond.codeWith y bytes maxL ret hh :: ws') (hrc : rm.cells = mc) (hrs : rm.slots = ms)
    (hd : y.cls = C ∧ y.cls ≠ "java/lang/invoke/MethodHandle" ∧ y.cls ≠ "java/lang/invoke/VarHandle" ∧ (parseMethodDescriptor y.desc).map (fun d => d.parameters.length) = some n) (hR : rm.frames + 1 ≤ R.frames ∧ 8 + (maxL + 11) + rm.locals ≤ R.locals) :
    vx_CVW R s args own C index y bytes maxL ret hh ws rm mc ms n := by
  obtain ⟨hC, hd⟩ := hd
  subst hC
  have ok : ∀ w ∈ wsV own index y.cls y ws, w.before args s = true := fun w h => ht w (hT w h).1
  have hG : GoodIn Ts ws := fun w h => hT w (by unfold wsV; exact List.mem_append_right _ h)
  have hc : Cond.codeWith y bytes maxL ret hh ∈ ws := by rw [hw]; exact List.mem_cons_self
  refine ⟨⟨hrc, hrs, hR.1, hR.2, pay_in ht hG, hc⟩, ht _ (hG _ hc).1, ok _ (by simp [wsV]), ⟨hd.1, hd.2.1⟩, fun sig h => ?_, ok _ (by simp [wsV]), ok _ (by simp [wsV]), ok _ (by simp [wsV])⟩
  have h2 := hd.2.2
  rw [h] at h2
  exact (Option.some.inj h2).symm
theorem vx_runVW {y : MethodName} {bytes cc : ByteArray} {maxL nL mc ms n index : Nat} {ret : Option FieldType} {hh : List (Nat × Nat × Nat × Nat)} {ws : List Cond} {rm : Room} {Pc : Array Value → State → Prop} {Qc : Array Value → State → Outcome → State → Prop} {free : Addr → Prop} {Ts : List Cond} {own C : String} {b : Addr} {As rest : List Value} {g : JFrame}
    (S : CallFix p m c cc nL s args Ts own) (hM : Met l y ws rm Pc Qc mc ms free) (cw : vx_CVW R s args own C index y bytes maxL ret hh ws rm mc ms n) (hp : PreV s H C b Pc As)
    (hg : g.method = m) (hn : As.length = n) (hsize : g.locals.size = nL) (hstack : g.stack = As.reverse ++ .ref b :: rest) (hW : 2 * g.monitorRoom + (rest.map fun v => v.category).sum ≤ 8) (hdg : decode cc g.pc = .ok (.invokevirtual index, 3)) (hf : cells + mc ≤ R.cells ∧ slots + ms ≤ R.slots) :
    va_Run p l e R s m args below meth c H locs cells slots mc ms g rest (Qc (Value.ref b :: As).toArray) free := by
  obtain ⟨⟨hrc, hrs, hfr, hlo, hws, hcw⟩, hcode, hini, hy, hlen, hl, hin, hse⟩ := cw
  have hK : Back l R p e below s args y 3 8 (PreOf R mc ms Pc) (PostOf Qc mc ms free) := va_backW (hh := hh) (bytes := bytes) (maxL := maxL) (ret := ret) hM hp.1 hrc hrs hfr hlo hws hcw (fun a' U hW => word_at hW (Or.inl (by first | rfl | simp [Cond.onTables, Cond.keeps, Cond.steady])) hini)
  obtain ⟨hx, hb, hml, ho, -⟩ := S
  obtain ⟨-, ⟨cellB, hcB, hoB, hclB⟩, hPc⟩ := hp
  intro T hT X
  obtain ⟨v, vm₁, ⟨U', l2, c2, s2⟩, hW₁, X', ⟨g', mk, t, L, e1, e2, hq, h1, hL, h2, h3⟩, st⟩ := vx_callVW X hx (C := C) (hh := hh) (bytes := bytes) (maxL := maxL) (ret := ret) ho hl hin hse hcode hy hK (by rw [hT]; exact hcB) hoB hclB hg (hsize.trans hml.symm) (argsL := As) (rest := rest) (fun sig h => hn.trans (hlen sig h)) hstack hW (by rw [hb]; exact hdg)
    (fun vm₁ hW₁ => ⟨hf.1, hf.2, hPc (T.setVm vm₁) hT hW₁⟩)
  dsimp only [Pt.U, Pt.locs, Pt.cells, Pt.slots] at X' e1 e2 h1 h2 h3 st
  subst h1; subst h2; subst h3
  exact ⟨v, (T.setVm vm₁).calling g' mk (Value.ref b :: As).toArray, t, U', L, hT, X', hL, e1, e2, hq, st⟩
section
variable {y : MethodName} {bytes cc : ByteArray} {maxL nL mc ms n index : Nat} {ret : Option FieldType} {ws : List Cond} {rm : Room} {Pc : Array Value → State → Prop} {Qc : Array Value → State → Outcome → State → Prop} {XC : String → State → State → Prop} {free : Addr → Prop} {Ts : List Cond} {own C : String} {b : Addr} {As rest : List Value} {g : JFrame}
theorem vx_runVX {hh : List (Nat × Nat × Nat × Nat)} (S : CallFix p m c cc nL s args Ts own) (hM : vx_Met l y ws rm Pc Qc XC mc ms free) (cw : vx_CVW R s args own C index y bytes maxL ret hh ws rm mc ms n) (hp : PreV s H C b Pc As)
    (hg : g.method = m) (hn : As.length = n) (hsize : g.locals.size = nL) (hstack : g.stack = As.reverse ++ .ref b :: rest) (hW : 2 * g.monitorRoom + (rest.map fun v => v.category).sum ≤ 8) (hdg : decode cc g.pc = .ok (.invokevirtual index, 3)) (hf : cells + mc ≤ R.cells ∧ slots + ms ≤ R.slots) :
    vx_Run p l e R s m args below meth c H locs cells slots mc ms g rest (Qc (Value.ref b :: As).toArray) XC free := by
  obtain ⟨⟨hrc, hrs, hfr, hlo, hws, hcw⟩, hcode, hini, hy, hlen, hl, hin, hse⟩ := cw
  have hK : vx_Back l R p e below s args y 3 8 (PreOf R mc ms Pc) (PostOf Qc mc ms free) (vx_Post XC mc ms free) := vx_backW (hh := hh) (bytes := bytes) (maxL := maxL) (ret := ret) hM hp.1 hrc hrs hfr hlo hws hcw (fun a' U hW => word_at hW (Or.inl (by first | rfl | simp [Cond.onTables, Cond.keeps, Cond.steady])) hini)
  obtain ⟨hx, hb, hml, ho, -⟩ := S
  obtain ⟨-, ⟨cellB, hcB, hoB, hclB⟩, hPc⟩ := hp
  intro T hT X
  rcases vx_callVX X hx (C := C) (hh := hh) (bytes := bytes) (maxL := maxL) (ret := ret) ho hl hin hse hcode hy hK (by rw [hT]; exact hcB) hoB hclB hg (hsize.trans hml.symm) (argsL := As) (rest := rest) (fun sig h => hn.trans (hlen sig h)) hstack hW (by rw [hb]; exact hdg)
    (fun vm₁ hW₁ => ⟨hf.1, hf.2, hPc (T.setVm vm₁) hT hW₁⟩) with ⟨v, vm₁, ⟨U', l2, c2, s2⟩, hW₁, X', ⟨g', mk, t, L, e1, e2, hq, h1, hL, h2, h3⟩, st⟩ | ⟨q, vm₁, ⟨U', l2, c2, s2⟩, hW₁, X', ⟨g', mk, t, L, E, ce, e1, e2, hq, hce, hcv, hcl, h1, hL, h2, h3⟩, st⟩
  · dsimp only [Pt.U, Pt.locs, Pt.cells, Pt.slots] at X' e1 e2 h1 h2 h3 st
    subst h1; subst h2; subst h3
    exact Or.inl ⟨v, (T.setVm vm₁).calling g' mk (Value.ref b :: As).toArray, t, U', L, hT, X', hL, e1, e2, hq, st⟩
  · dsimp only [Pt.U, Pt.locs, Pt.cells, Pt.slots] at X' e1 e2 h1 h2 h3 st hcl
    subst h1; subst h2; subst h3
    exact Or.inr ⟨q, (T.setVm vm₁).calling g' mk (Value.ref b :: As).toArray, t, U', L, E, ce, hT, X', hL, e1, e2, hq, hce, hcv, vx_cls hW₁ hcl, st⟩
theorem vx_runSX {hh : List (Nat × Nat × Nat × Nat)} (S : CallFix p m c cc nL s args Ts own) (hM : vx_Met l y ws rm Pc Qc XC mc ms free) (cw : vx_CSW R s args own index y bytes maxL ret hh ws rm mc ms n) (hp : PreS s H Pc As)
    (hg : g.method = m) (hn : As.length = n) (hsize : g.locals.size = nL) (hstack : g.stack = As.reverse ++ rest) (hW : 2 * g.monitorRoom + (rest.map fun v => v.category).sum ≤ 8) (hdg : decode cc g.pc = .ok (.invokestatic index, 3)) (hf : cells + mc ≤ R.cells ∧ slots + ms ≤ R.slots) :
    vx_Run p l e R s m args below meth c H locs cells slots mc ms g rest (Qc As.toArray) XC free := by
  obtain ⟨⟨hrc, hrs, hfr, hlo, hws, hcw⟩, hcode, hini, hy, hlen, hl, hstt⟩ := cw
  have hK : vx_Back l R p e below s args y 3 8 (PreOf R mc ms Pc) (PostOf Qc mc ms free) (vx_Post XC mc ms free) := vx_backW (hh := hh) (bytes := bytes) (maxL := maxL) (ret := ret) hM hp.1 hrc hrs hfr hlo hws hcw (fun a' U hW => word_at hW (Or.inl (by first | rfl | simp [Cond.onTables, Cond.keeps, Cond.steady])) hini)
  obtain ⟨hx, hb, hml, ho, -⟩ := S
  intro T hT X
  rcases vx_callSX X hx (hh := hh) (bytes := bytes) (maxL := maxL) (ret := ret) ho hl hstt hini hcode hy hK hg (hsize.trans hml.symm) (argsL := As) (rest := rest) (fun sig h => hn.trans (hlen sig h)) hstack hW (by rw [hb]; exact hdg)
    (fun vm₁ hW₁ => ⟨hf.1, hf.2, hp.2 (T.setVm vm₁) hT hW₁⟩) with ⟨v, vm₁, ⟨U', l2, c2, s2⟩, hW₁, X', ⟨g', mk, t, L, e1, e2, hq, h1, hL, h2, h3⟩, st⟩ | ⟨q, vm₁, ⟨U', l2, c2, s2⟩, hW₁, X', ⟨g', mk, t, L, E, ce, e1, e2, hq, hce, hcv, hcl, h1, hL, h2, h3⟩, st⟩
  · dsimp only [Pt.U, Pt.locs, Pt.cells, Pt.slots] at X' e1 e2 h1 h2 h3 st
    subst h1; subst h2; subst h3
    exact Or.inl ⟨v, (T.setVm vm₁).calling g' mk As.toArray, t, U', L, hT, X', hL, e1, e2, hq, st⟩
  · dsimp only [Pt.U, Pt.locs, Pt.cells, Pt.slots] at X' e1 e2 h1 h2 h3 st hcl
    subst h1; subst h2; subst h3
    exact Or.inr ⟨q, (T.setVm vm₁).calling g' mk As.toArray, t, U', L, E, ce, hT, X', hL, e1, e2, hq, hce, hcv, vx_cls hW₁ hcl, st⟩
end
end VXH
theorem vx_ofWH {l : Launch} {y : MethodName} {ws ws' : List Cond} {rm : Room} {Pc : Array Value → State → Prop} {Qc : Array Value → State → Outcome → State → Prop} {XC : String → State → State → Prop} {mc ms : Nat} {free : Addr → Prop} {cc : ByteArray} {maxL : Nat} {ret : Option FieldType} {hh : List (Nat × Nat × Nat × Nat)}
    (hy : plainName y.cls = true) (hw : ws = Cond.codeWith y cc maxL ret hh :: ws')
    (body : ∀ p e s m args below meth c s₁, BodyLoose p l y (headSpec ws rm) cc maxL ret e s m args below meth c s₁ → c.maxLocals = maxL → Pc args s →
      W p l e (headSpec ws rm).room s m args below meth c s.heap [] 0 0 (vx_MQ below Qc XC args s mc ms free) (entryFrame m args maxL)) : vx_Met l y ws rm Pc Qc XC mc ms free := by
  refine MetFree.of_bodyS (code := cc) (maxLocals := maxL) (ret := ret) hy ?_ ?_
  · intro args s m h hn
    obtain ⟨m9, meth, c, hn9, h1, h2, h3, h4, -, h5, h6, -⟩ := Cond.codeWith_spec (atoms_spec (ws := ws) h _ (by rw [hw]; exact List.mem_cons_self))
    cases hn.symm.trans hn9
    exact ⟨meth, c, h1, h2, h3, h4, h5, h6⟩
  · intro p e s m args below meth c s₁ B hml hP _
    have hh0 : s₁.heap = s.heap := by rw [B.state]; rfl
    obtain ⟨t, a1, o, b1, b2, b3⟩ := body p e s m args below meth c s₁ B hml hP s₁ hh0 (Stand.of_body B)
    exact ⟨t, o, a1, b1, b2, b3⟩
/-! ===== END ===== -/
end
section
/-! ===== BEGIN printed: names, fields, word lists, decode rows ===== -/
def RX0 : String := "Arrivalbooks$Arrivals"
def TX0 : u_T := fun k => match k with
  | 0 => ("Arrivalbooks$Arrivals", "keys", "[I", true)
  | 1 => ("Arrivalbooks$Arrivals", "times", "[I", true)
  | 2 => ("Arrivalbooks$Arrivals", "count", "I", false)
  | _ => ("Arrivalbooks$Arrivals", "now", "I", false)
def tyX0 : Nat → FieldType := fun k => match k with
  | 0 => .array .int
  | 1 => .array .int
  | 2 => .int
  | _ => .int
abbrev wsX00 : List Cond := u_ws RX0 TX0 4
theorem nmX0 : ∀ a, a < 4 → ∀ b, b < 4 → a ≠ b → (TX0 a).2.1 ≠ (TX0 b).2.1 := by decide +kernel
theorem tyX0_ok : ∀ k, k < 4 → parseFieldDescriptor (TX0 k).2.2.1 = some (tyX0 k) := by decide +kernel
abbrev cX0_init : ByteArray := prog_2_method_1_code
def yX0_init : MethodName := ⟨RX0, "<init>", "()V"⟩
abbrev cX0_cameIn : ByteArray := prog_2_method_2_code
def yX0_cameIn : MethodName := ⟨RX0, "cameIn", "(I)V"⟩
abbrev cX0_wentOut : ByteArray := prog_2_method_3_code
def yX0_wentOut : MethodName := ⟨RX0, "wentOut", "(I)V"⟩
abbrev cX0_allWentOut : ByteArray := prog_2_method_4_code
def yX0_allWentOut : MethodName := ⟨RX0, "allWentOut", "()V"⟩
abbrev cX0_tellOf : ByteArray := prog_2_method_5_code
def yX0_tellOf : MethodName := ⟨RX0, "tellOf", "(LArrivalbooks$Book;)Z"⟩
abbrev cX0_indexOfKey : ByteArray := prog_2_method_6_code
def yX0_indexOfKey : MethodName := ⟨RX0, "indexOfKey", "(I)I"⟩
def RX1 : String := "Arrivalbooks$Book"
def TX1 : u_T := fun k => match k with
  | 0 => ("Arrivalbooks$Book", "keys", "[I", true)
  | 1 => ("Arrivalbooks$Book", "values", "[I", true)
  | 2 => ("Arrivalbooks$Book", "arrivals", "LArrivalbooks$Arrivals;", true)
  | 3 => ("Arrivalbooks$Book", "letsGo", "Z", true)
  | 4 => ("Arrivalbooks$Book", "bound", "I", false)
  | _ => ("Arrivalbooks$Book", "count", "I", false)
def tyX1 : Nat → FieldType := fun k => match k with
  | 0 => .array .int
  | 1 => .array .int
  | 2 => .object "Arrivalbooks$Arrivals"
  | 3 => .boolean
  | 4 => .int
  | _ => .int
abbrev wsX10 : List Cond := u_ws RX1 TX1 6
theorem nmX1 : ∀ a, a < 6 → ∀ b, b < 6 → a ≠ b → (TX1 a).2.1 ≠ (TX1 b).2.1 := by decide +kernel
theorem tyX1_ok : ∀ k, k < 6 → parseFieldDescriptor (TX1 k).2.2.1 = some (tyX1 k) := by decide +kernel
abbrev cX1_init : ByteArray := prog_3_method_1_code
def yX1_init : MethodName := ⟨RX1, "<init>", "(IZ)V"⟩
abbrev cX1_reaches : ByteArray := prog_3_method_2_code
def yX1_reaches : MethodName := ⟨RX1, "reaches", "(I)Z"⟩
abbrev cX1_find : ByteArray := prog_3_method_3_code
def yX1_find : MethodName := ⟨RX1, "find", "(I)I"⟩
abbrev cX1_keyOn : ByteArray := prog_3_method_4_code
def yX1_keyOn : MethodName := ⟨RX1, "keyOn", "(I)I"⟩
abbrev cX1_valueOn : ByteArray := prog_3_method_5_code
def yX1_valueOn : MethodName := ⟨RX1, "valueOn", "(I)I"⟩
abbrev cX1_holdsValue : ByteArray := prog_3_method_6_code
def yX1_holdsValue : MethodName := ⟨RX1, "holdsValue", "(I)Z"⟩
abbrev cX1_give : ByteArray := prog_3_method_7_code
def yX1_give : MethodName := ⟨RX1, "give", "(II)V"⟩
abbrev cX1_enter : ByteArray := prog_3_method_8_code
def yX1_enter : MethodName := ⟨RX1, "enter", "(II)V"⟩
abbrev cX1_store : ByteArray := prog_3_method_9_code
def yX1_store : MethodName := ⟨RX1, "store", "(II)Z"⟩
abbrev cX1_leave : ByteArray := prog_3_method_10_code
def yX1_leave : MethodName := ⟨RX1, "leave", "(I)V"⟩
abbrev cX1_empty : ByteArray := prog_3_method_11_code
def yX1_empty : MethodName := ⟨RX1, "empty", "()V"⟩
abbrev cX1_storeAllOf : ByteArray := prog_3_method_12_code
def yX1_storeAllOf : MethodName := ⟨RX1, "storeAllOf", "(LArrivalbooks$Book;)V"⟩
abbrev cX1_becomeCopyOf : ByteArray := prog_3_method_13_code
def yX1_becomeCopyOf : MethodName := ⟨RX1, "becomeCopyOf", "(LArrivalbooks$Book;)V"⟩
abbrev cX1_countMissingIn : ByteArray := prog_3_method_14_code
def yX1_countMissingIn : MethodName := ⟨RX1, "countMissingIn", "(LArrivalbooks$Book;)I"⟩
abbrev cX1_hasPairsOf : ByteArray := prog_3_method_15_code
def yX1_hasPairsOf : MethodName := ⟨RX1, "hasPairsOf", "(LArrivalbooks$Book;)Z"⟩
abbrev cX1_hasRowOf : ByteArray := prog_3_method_16_code
def yX1_hasRowOf : MethodName := ⟨RX1, "hasRowOf", "(LArrivalbooks$Book;)Z"⟩
abbrev cX1_mixed : ByteArray := prog_3_method_17_code
def yX1_mixed : MethodName := ⟨RX1, "mixed", "()I"⟩
def RX2 : String := "Arrivalbooks$Cursor"
def TX2 : u_T := fun k => match k with
  | 0 => ("Arrivalbooks$Cursor", "book", "I", false)
  | 1 => ("Arrivalbooks$Cursor", "kind", "I", false)
  | 2 => ("Arrivalbooks$Cursor", "ahead", "I", false)
  | _ => ("Arrivalbooks$Cursor", "isOnPair", "Z", false)
def tyX2 : Nat → FieldType := fun k => match k with
  | 0 => .int
  | 1 => .int
  | 2 => .int
  | _ => .boolean
abbrev wsX20 : List Cond := u_ws RX2 TX2 4
theorem nmX2 : ∀ a, a < 4 → ∀ b, b < 4 → a ≠ b → (TX2 a).2.1 ≠ (TX2 b).2.1 := by decide +kernel
theorem tyX2_ok : ∀ k, k < 4 → parseFieldDescriptor (TX2 k).2.2.1 = some (tyX2 k) := by decide +kernel
abbrev cX2_init : ByteArray := prog_4_method_1_code
def yX2_init : MethodName := ⟨RX2, "<init>", "()V"⟩
abbrev cX2_openAt : ByteArray := prog_4_method_2_code
def yX2_openAt : MethodName := ⟨RX2, "openAt", "(II)V"⟩
abbrev cX2_close : ByteArray := prog_4_method_3_code
def yX2_close : MethodName := ⟨RX2, "close", "()V"⟩
abbrev cX2_lastPlace : ByteArray := prog_4_method_4_code
def yX2_lastPlace : MethodName := ⟨RX2, "lastPlace", "()I"⟩
abbrev cX2_goOn : ByteArray := prog_4_method_5_code
def yX2_goOn : MethodName := ⟨RX2, "goOn", "()V"⟩
abbrev cX2_stepBack : ByteArray := prog_4_method_6_code
def yX2_stepBack : MethodName := ⟨RX2, "stepBack", "()V"⟩
def RX3 : String := "Arrivalbooks$Output"
def TX3 : u_T := fun k => match k with
  | 0 => ("Arrivalbooks$Output", "signs", "[C", true)
  | _ => ("Arrivalbooks$Output", "length", "I", false)
def tyX3 : Nat → FieldType := fun k => match k with
  | 0 => .array .char
  | _ => .int
abbrev wsX30 : List Cond := u_ws RX3 TX3 2
theorem nmX3 : ∀ a, a < 2 → ∀ b, b < 2 → a ≠ b → (TX3 a).2.1 ≠ (TX3 b).2.1 := by decide +kernel
theorem tyX3_ok : ∀ k, k < 2 → parseFieldDescriptor (TX3 k).2.2.1 = some (tyX3 k) := by decide +kernel
abbrev cX3_init : ByteArray := prog_5_method_1_code
def yX3_init : MethodName := ⟨RX3, "<init>", "()V"⟩
abbrev cX3_reaches : ByteArray := prog_5_method_2_code
def yX3_reaches : MethodName := ⟨RX3, "reaches", "(I)Z"⟩
abbrev cX3_signOn : ByteArray := prog_5_method_3_code
def yX3_signOn : MethodName := ⟨RX3, "signOn", "(I)I"⟩
abbrev cX3_startAnew : ByteArray := prog_5_method_4_code
def yX3_startAnew : MethodName := ⟨RX3, "startAnew", "()V"⟩
abbrev cX3_append : ByteArray := prog_5_method_5_code
def yX3_append : MethodName := ⟨RX3, "append", "(C)V"⟩
abbrev cX3_appendNumber : ByteArray := prog_5_method_6_code
def yX3_appendNumber : MethodName := ⟨RX3, "appendNumber", "(I)V"⟩
def RX4 : String := "Arrivalbooks"
def TX4 : u_T := fun k => match k with
  | 0 => ("Arrivalbooks", "firstPlain", "LArrivalbooks$Book;", true)
  | 1 => ("Arrivalbooks", "secondPlain", "LArrivalbooks$Book;", true)
  | 2 => ("Arrivalbooks", "bounded", "LArrivalbooks$Book;", true)
  | 3 => ("Arrivalbooks", "queue", "LArrivalbooks$Book;", true)
  | 4 => ("Arrivalbooks", "spare", "LArrivalbooks$Book;", true)
  | 5 => ("Arrivalbooks", "firstCursor", "LArrivalbooks$Cursor;", true)
  | 6 => ("Arrivalbooks", "secondCursor", "LArrivalbooks$Cursor;", true)
  | 7 => ("Arrivalbooks", "thirdCursor", "LArrivalbooks$Cursor;", true)
  | _ => ("Arrivalbooks", "output", "LArrivalbooks$Output;", true)
def tyX4 : Nat → FieldType := fun k => match k with
  | 0 => .object "Arrivalbooks$Book"
  | 1 => .object "Arrivalbooks$Book"
  | 2 => .object "Arrivalbooks$Book"
  | 3 => .object "Arrivalbooks$Book"
  | 4 => .object "Arrivalbooks$Book"
  | 5 => .object "Arrivalbooks$Cursor"
  | 6 => .object "Arrivalbooks$Cursor"
  | 7 => .object "Arrivalbooks$Cursor"
  | _ => .object "Arrivalbooks$Output"
abbrev wsX40 : List Cond := u_ws RX4 TX4 9
theorem nmX4 : ∀ a, a < 9 → ∀ b, b < 9 → a ≠ b → (TX4 a).2.1 ≠ (TX4 b).2.1 := by decide +kernel
theorem tyX4_ok : ∀ k, k < 9 → parseFieldDescriptor (TX4 k).2.2.1 = some (tyX4 k) := by decide +kernel
abbrev cX4_init : ByteArray := prog_1_method_1_code
def yX4_init : MethodName := ⟨RX4, "<init>", "()V"⟩
abbrev cX4_rebind : ByteArray := prog_1_method_2_code
def yX4_rebind : MethodName := ⟨RX4, "rebind", "(I)I"⟩
abbrev cX4_put : ByteArray := prog_1_method_3_code
def yX4_put : MethodName := ⟨RX4, "put", "(III)Z"⟩
abbrev cX4_putNew : ByteArray := prog_1_method_4_code
def yX4_putNew : MethodName := ⟨RX4, "putNew", "(III)I"⟩
abbrev cX4_add : ByteArray := prog_1_method_5_code
def yX4_add : MethodName := ⟨RX4, "add", "(III)I"⟩
abbrev cX4_halve : ByteArray := prog_1_method_6_code
def yX4_halve : MethodName := ⟨RX4, "halve", "(II)Z"⟩
abbrev cX4_addToAll : ByteArray := prog_1_method_7_code
def yX4_addToAll : MethodName := ⟨RX4, "addToAll", "(II)I"⟩
abbrev cX4_replace : ByteArray := prog_1_method_8_code
def yX4_replace : MethodName := ⟨RX4, "replace", "(III)Z"⟩
abbrev cX4_remove : ByteArray := prog_1_method_9_code
def yX4_remove : MethodName := ⟨RX4, "remove", "(II)I"⟩
abbrev cX4_removePair : ByteArray := prog_1_method_10_code
def yX4_removePair : MethodName := ⟨RX4, "removePair", "(III)Z"⟩
abbrev cX4_fill : ByteArray := prog_1_method_11_code
def yX4_fill : MethodName := ⟨RX4, "fill", "(IIII)I"⟩
abbrev cX4_pour : ByteArray := prog_1_method_12_code
def yX4_pour : MethodName := ⟨RX4, "pour", "(II)I"⟩
abbrev cX4_copy : ByteArray := prog_1_method_13_code
def yX4_copy : MethodName := ⟨RX4, "copy", "(II)I"⟩
abbrev cX4_clear : ByteArray := prog_1_method_14_code
def yX4_clear : MethodName := ⟨RX4, "clear", "(I)I"⟩
abbrev cX4_offer : ByteArray := prog_1_method_15_code
def yX4_offer : MethodName := ⟨RX4, "offer", "(I)Z"⟩
abbrev cX4_poll : ByteArray := prog_1_method_16_code
def yX4_poll : MethodName := ⟨RX4, "poll", "()I"⟩
abbrev cX4_toEnd : ByteArray := prog_1_method_17_code
def yX4_toEnd : MethodName := ⟨RX4, "toEnd", "(I)I"⟩
abbrev cX4_open : ByteArray := prog_1_method_18_code
def yX4_open : MethodName := ⟨RX4, "open", "(III)I"⟩
abbrev cX4_hasNext : ByteArray := prog_1_method_19_code
def yX4_hasNext : MethodName := ⟨RX4, "hasNext", "(I)Z"⟩
abbrev cX4_next : ByteArray := prog_1_method_20_code
def yX4_next : MethodName := ⟨RX4, "next", "(I)I"⟩
abbrev cX4_removeAt : ByteArray := prog_1_method_21_code
def yX4_removeAt : MethodName := ⟨RX4, "removeAt", "(I)I"⟩
abbrev cX4_setAt : ByteArray := prog_1_method_22_code
def yX4_setAt : MethodName := ⟨RX4, "setAt", "(II)I"⟩
abbrev cX4_bookOf : ByteArray := prog_1_method_23_code
def yX4_bookOf : MethodName := ⟨RX4, "bookOf", "(I)I"⟩
abbrev cX4_size : ByteArray := prog_1_method_24_code
def yX4_size : MethodName := ⟨RX4, "size", "(I)I"⟩
abbrev cX4_hasKey : ByteArray := prog_1_method_25_code
def yX4_hasKey : MethodName := ⟨RX4, "hasKey", "(II)Z"⟩
abbrev cX4_hasValue : ByteArray := prog_1_method_26_code
def yX4_hasValue : MethodName := ⟨RX4, "hasValue", "(II)Z"⟩
abbrev cX4_get : ByteArray := prog_1_method_27_code
def yX4_get : MethodName := ⟨RX4, "get", "(III)I"⟩
abbrev cX4_keyAt : ByteArray := prog_1_method_28_code
def yX4_keyAt : MethodName := ⟨RX4, "keyAt", "(II)I"⟩
abbrev cX4_valueAt : ByteArray := prog_1_method_29_code
def yX4_valueAt : MethodName := ⟨RX4, "valueAt", "(II)I"⟩
abbrev cX4_placeOf : ByteArray := prog_1_method_30_code
def yX4_placeOf : MethodName := ⟨RX4, "placeOf", "(II)I"⟩
abbrev cX4_areEqual : ByteArray := prog_1_method_31_code
def yX4_areEqual : MethodName := ⟨RX4, "areEqual", "(II)Z"⟩
abbrev cX4_areAlike : ByteArray := prog_1_method_32_code
def yX4_areAlike : MethodName := ⟨RX4, "areAlike", "(II)Z"⟩
abbrev cX4_hash : ByteArray := prog_1_method_33_code
def yX4_hash : MethodName := ⟨RX4, "hash", "(I)I"⟩
abbrev cX4_sum : ByteArray := prog_1_method_34_code
def yX4_sum : MethodName := ⟨RX4, "sum", "(I)J"⟩
abbrev cX4_write : ByteArray := prog_1_method_35_code
def yX4_write : MethodName := ⟨RX4, "write", "(I)I"⟩
abbrev cX4_outputAt : ByteArray := prog_1_method_36_code
def yX4_outputAt : MethodName := ⟨RX4, "outputAt", "(I)I"⟩
abbrev cX4_isAddRefused : ByteArray := prog_1_method_37_code
def yX4_isAddRefused : MethodName := ⟨RX4, "isAddRefused", "(II)Z"⟩
abbrev cX4_isNothingRefused : ByteArray := prog_1_method_38_code
def yX4_isNothingRefused : MethodName := ⟨RX4, "isNothingRefused", "(II)Z"⟩
abbrev cX4_mean : ByteArray := prog_1_method_39_code
def yX4_mean : MethodName := ⟨RX4, "mean", "(I)D"⟩
abbrev cX4_fullness : ByteArray := prog_1_method_40_code
def yX4_fullness : MethodName := ⟨RX4, "fullness", "()F"⟩
abbrev cX4_errors : ByteArray := prog_1_method_41_code
def yX4_errors : MethodName := ⟨RX4, "errors", "()I"⟩
abbrev cX4_isAsTheTheoremTells : ByteArray := prog_1_method_42_code
def yX4_isAsTheTheoremTells : MethodName := ⟨RX4, "isAsTheTheoremTells", "(LArrivalbooks$Book;)Z"⟩
abbrev cX4_isCopyInOrder : ByteArray := prog_1_method_43_code
def yX4_isCopyInOrder : MethodName := ⟨RX4, "isCopyInOrder", "(LArrivalbooks$Book;)Z"⟩
abbrev cX4_isEqualInOppositeOrder : ByteArray := prog_1_method_44_code
def yX4_isEqualInOppositeOrder : MethodName := ⟨RX4, "isEqualInOppositeOrder", "(LArrivalbooks$Book;)Z"⟩
abbrev cX4_bookOfNumber : ByteArray := prog_1_method_45_code
def yX4_bookOfNumber : MethodName := ⟨RX4, "bookOfNumber", "(I)LArrivalbooks$Book;"⟩
abbrev cX4_bookChangedByHand : ByteArray := prog_1_method_46_code
def yX4_bookChangedByHand : MethodName := ⟨RX4, "bookChangedByHand", "(I)LArrivalbooks$Book;"⟩
abbrev cX4_plainBook : ByteArray := prog_1_method_47_code
def yX4_plainBook : MethodName := ⟨RX4, "plainBook", "(I)LArrivalbooks$Book;"⟩
abbrev cX4_requireTwoBooks : ByteArray := prog_1_method_48_code
def yX4_requireTwoBooks : MethodName := ⟨RX4, "requireTwoBooks", "(II)V"⟩
abbrev cX4_requireRoomForKey : ByteArray := prog_1_method_49_code
def yX4_requireRoomForKey : MethodName := ⟨RX4, "requireRoomForKey", "(LArrivalbooks$Book;I)V"⟩
abbrev cX4_requireRoom : ByteArray := prog_1_method_50_code
def yX4_requireRoom : MethodName := ⟨RX4, "requireRoom", "(LArrivalbooks$Book;I)V"⟩
abbrev cX4_requirePlace : ByteArray := prog_1_method_51_code
def yX4_requirePlace : MethodName := ⟨RX4, "requirePlace", "(LArrivalbooks$Book;I)V"⟩
abbrev cX4_requireKind : ByteArray := prog_1_method_52_code
def yX4_requireKind : MethodName := ⟨RX4, "requireKind", "(I)V"⟩
abbrev cX4_cursorOfNumber : ByteArray := prog_1_method_53_code
def yX4_cursorOfNumber : MethodName := ⟨RX4, "cursorOfNumber", "(I)LArrivalbooks$Cursor;"⟩
abbrev cX4_openCursor : ByteArray := prog_1_method_54_code
def yX4_openCursor : MethodName := ⟨RX4, "openCursor", "(I)LArrivalbooks$Cursor;"⟩
abbrev cX4_requireChangeablePair : ByteArray := prog_1_method_55_code
def yX4_requireChangeablePair : MethodName := ⟨RX4, "requireChangeablePair", "(LArrivalbooks$Cursor;)V"⟩
abbrev cX4_closeCursors : ByteArray := prog_1_method_56_code
def yX4_closeCursors : MethodName := ⟨RX4, "closeCursors", "(II)V"⟩
def RX5 : String := "ArrivalbooksModel"
def TX5 : u_T := fun k => match k with
  | 0 => ("ArrivalbooksModel", "keys", "[I", true)
  | 1 => ("ArrivalbooksModel", "values", "[I", true)
  | 2 => ("ArrivalbooksModel", "size", "[I", true)
  | 3 => ("ArrivalbooksModel", "bound", "I", false)
  | 4 => ("ArrivalbooksModel", "thrown", "I", false)
  | 5 => ("ArrivalbooksModel", "cursorBook", "[I", true)
  | 6 => ("ArrivalbooksModel", "cursorKind", "[I", true)
  | 7 => ("ArrivalbooksModel", "cursorAt", "[I", true)
  | 8 => ("ArrivalbooksModel", "isThere", "[Z", true)
  | 9 => ("ArrivalbooksModel", "output", "[I", true)
  | _ => ("ArrivalbooksModel", "written", "I", false)
def tyX5 : Nat → FieldType := fun k => match k with
  | 0 => .array .int
  | 1 => .array .int
  | 2 => .array .int
  | 3 => .int
  | 4 => .int
  | 5 => .array .int
  | 6 => .array .int
  | 7 => .array .int
  | 8 => .array .boolean
  | 9 => .array .int
  | _ => .int
abbrev wsX50 : List Cond := u_ws RX5 TX5 11
theorem nmX5 : ∀ a, a < 11 → ∀ b, b < 11 → a ≠ b → (TX5 a).2.1 ≠ (TX5 b).2.1 := by decide +kernel
theorem tyX5_ok : ∀ k, k < 11 → parseFieldDescriptor (TX5 k).2.2.1 = some (tyX5 k) := by decide +kernel
abbrev cX5_init : ByteArray := prog_7_method_1_code
def yX5_init : MethodName := ⟨RX5, "<init>", "()V"⟩
abbrev cX5_thrown : ByteArray := prog_7_method_2_code
def yX5_thrown : MethodName := ⟨RX5, "thrown", "()I"⟩
abbrev cX5_in : ByteArray := prog_7_method_3_code
def yX5_in : MethodName := ⟨RX5, "in", "(III)Z"⟩
abbrev cX5_isBook : ByteArray := prog_7_method_4_code
def yX5_isBook : MethodName := ⟨RX5, "isBook", "(I)Z"⟩
abbrev cX5_isPlain : ByteArray := prog_7_method_5_code
def yX5_isPlain : MethodName := ⟨RX5, "isPlain", "(I)Z"⟩
abbrev cX5_refuse : ByteArray := prog_7_method_6_code
def yX5_refuse : MethodName := ⟨RX5, "refuse", "(I)I"⟩
abbrev cX5_told : ByteArray := prog_7_method_7_code
def yX5_told : MethodName := ⟨RX5, "told", "(I)I"⟩
abbrev cX5_says : ByteArray := prog_7_method_8_code
def yX5_says : MethodName := ⟨RX5, "says", "(Z)Z"⟩
abbrev cX5_denies : ByteArray := prog_7_method_9_code
def yX5_denies : MethodName := ⟨RX5, "denies", "(I)Z"⟩
abbrev cX5_place : ByteArray := prog_7_method_10_code
def yX5_place : MethodName := ⟨RX5, "place", "(II)I"⟩
abbrev cX5_takes : ByteArray := prog_7_method_11_code
def yX5_takes : MethodName := ⟨RX5, "takes", "(II)V"⟩
abbrev cX5_comes : ByteArray := prog_7_method_12_code
def yX5_comes : MethodName := ⟨RX5, "comes", "(III)V"⟩
abbrev cX5_puts : ByteArray := prog_7_method_13_code
def yX5_puts : MethodName := ⟨RX5, "puts", "(III)V"⟩
abbrev cX5_isFull : ByteArray := prog_7_method_14_code
def yX5_isFull : MethodName := ⟨RX5, "isFull", "(II)Z"⟩
abbrev cX5_closes : ByteArray := prog_7_method_15_code
def yX5_closes : MethodName := ⟨RX5, "closes", "(II)V"⟩
abbrev cX5_rebind : ByteArray := prog_7_method_16_code
def yX5_rebind : MethodName := ⟨RX5, "rebind", "(I)I"⟩
abbrev cX5_put : ByteArray := prog_7_method_17_code
def yX5_put : MethodName := ⟨RX5, "put", "(III)Z"⟩
abbrev cX5_lacks : ByteArray := prog_7_method_18_code
def yX5_lacks : MethodName := ⟨RX5, "lacks", "(II)I"⟩
abbrev cX5_putNew : ByteArray := prog_7_method_19_code
def yX5_putNew : MethodName := ⟨RX5, "putNew", "(III)I"⟩
abbrev cX5_add : ByteArray := prog_7_method_20_code
def yX5_add : MethodName := ⟨RX5, "add", "(III)I"⟩
abbrev cX5_halve : ByteArray := prog_7_method_21_code
def yX5_halve : MethodName := ⟨RX5, "halve", "(II)Z"⟩
abbrev cX5_addToAll : ByteArray := prog_7_method_22_code
def yX5_addToAll : MethodName := ⟨RX5, "addToAll", "(II)I"⟩
abbrev cX5_replace : ByteArray := prog_7_method_23_code
def yX5_replace : MethodName := ⟨RX5, "replace", "(III)Z"⟩
abbrev cX5_remove : ByteArray := prog_7_method_24_code
def yX5_remove : MethodName := ⟨RX5, "remove", "(II)I"⟩
abbrev cX5_removePair : ByteArray := prog_7_method_25_code
def yX5_removePair : MethodName := ⟨RX5, "removePair", "(III)Z"⟩
abbrev cX5_fill : ByteArray := prog_7_method_26_code
def yX5_fill : MethodName := ⟨RX5, "fill", "(IIII)I"⟩
abbrev cX5_pour : ByteArray := prog_7_method_27_code
def yX5_pour : MethodName := ⟨RX5, "pour", "(II)I"⟩
abbrev cX5_copy : ByteArray := prog_7_method_28_code
def yX5_copy : MethodName := ⟨RX5, "copy", "(II)I"⟩
abbrev cX5_clear : ByteArray := prog_7_method_29_code
def yX5_clear : MethodName := ⟨RX5, "clear", "(I)I"⟩
abbrev cX5_offer : ByteArray := prog_7_method_30_code
def yX5_offer : MethodName := ⟨RX5, "offer", "(I)Z"⟩
abbrev cX5_poll : ByteArray := prog_7_method_31_code
def yX5_poll : MethodName := ⟨RX5, "poll", "()I"⟩
abbrev cX5_toEnd : ByteArray := prog_7_method_32_code
def yX5_toEnd : MethodName := ⟨RX5, "toEnd", "(I)I"⟩
abbrev cX5_isCursor : ByteArray := prog_7_method_33_code
def yX5_isCursor : MethodName := ⟨RX5, "isCursor", "(I)Z"⟩
abbrev cX5_isOpen : ByteArray := prog_7_method_34_code
def yX5_isOpen : MethodName := ⟨RX5, "isOpen", "(I)Z"⟩
abbrev cX5_open : ByteArray := prog_7_method_35_code
def yX5_open : MethodName := ⟨RX5, "open", "(III)I"⟩
abbrev cX5_hasNext : ByteArray := prog_7_method_36_code
def yX5_hasNext : MethodName := ⟨RX5, "hasNext", "(I)Z"⟩
abbrev cX5_next : ByteArray := prog_7_method_37_code
def yX5_next : MethodName := ⟨RX5, "next", "(I)I"⟩
abbrev cX5_canChange : ByteArray := prog_7_method_38_code
def yX5_canChange : MethodName := ⟨RX5, "canChange", "(I)Z"⟩
abbrev cX5_removeAt : ByteArray := prog_7_method_39_code
def yX5_removeAt : MethodName := ⟨RX5, "removeAt", "(I)I"⟩
abbrev cX5_setAt : ByteArray := prog_7_method_40_code
def yX5_setAt : MethodName := ⟨RX5, "setAt", "(II)I"⟩
abbrev cX5_bookOf : ByteArray := prog_7_method_41_code
def yX5_bookOf : MethodName := ⟨RX5, "bookOf", "(I)I"⟩
abbrev cX5_isPlace : ByteArray := prog_7_method_42_code
def yX5_isPlace : MethodName := ⟨RX5, "isPlace", "(II)Z"⟩
abbrev cX5_size : ByteArray := prog_7_method_43_code
def yX5_size : MethodName := ⟨RX5, "size", "(I)I"⟩
abbrev cX5_hasKey : ByteArray := prog_7_method_44_code
def yX5_hasKey : MethodName := ⟨RX5, "hasKey", "(II)Z"⟩
abbrev cX5_hasValue : ByteArray := prog_7_method_45_code
def yX5_hasValue : MethodName := ⟨RX5, "hasValue", "(II)Z"⟩
abbrev cX5_get : ByteArray := prog_7_method_46_code
def yX5_get : MethodName := ⟨RX5, "get", "(III)I"⟩
abbrev cX5_keyAt : ByteArray := prog_7_method_47_code
def yX5_keyAt : MethodName := ⟨RX5, "keyAt", "(II)I"⟩
abbrev cX5_valueAt : ByteArray := prog_7_method_48_code
def yX5_valueAt : MethodName := ⟨RX5, "valueAt", "(II)I"⟩
abbrev cX5_placeOf : ByteArray := prog_7_method_49_code
def yX5_placeOf : MethodName := ⟨RX5, "placeOf", "(II)I"⟩
abbrev cX5_hasPair : ByteArray := prog_7_method_50_code
def yX5_hasPair : MethodName := ⟨RX5, "hasPair", "(III)Z"⟩
abbrev cX5_areEqual : ByteArray := prog_7_method_51_code
def yX5_areEqual : MethodName := ⟨RX5, "areEqual", "(II)Z"⟩
abbrev cX5_areAlike : ByteArray := prog_7_method_52_code
def yX5_areAlike : MethodName := ⟨RX5, "areAlike", "(II)Z"⟩
abbrev cX5_hash : ByteArray := prog_7_method_53_code
def yX5_hash : MethodName := ⟨RX5, "hash", "(I)I"⟩
abbrev cX5_sum : ByteArray := prog_7_method_54_code
def yX5_sum : MethodName := ⟨RX5, "sum", "(I)J"⟩
abbrev cX5_writes : ByteArray := prog_7_method_55_code
def yX5_writes : MethodName := ⟨RX5, "writes", "(I)V"⟩
abbrev cX5_writesNumber : ByteArray := prog_7_method_56_code
def yX5_writesNumber : MethodName := ⟨RX5, "writesNumber", "(I)V"⟩
abbrev cX5_write : ByteArray := prog_7_method_57_code
def yX5_write : MethodName := ⟨RX5, "write", "(I)I"⟩
abbrev cX5_outputAt : ByteArray := prog_7_method_58_code
def yX5_outputAt : MethodName := ⟨RX5, "outputAt", "(I)I"⟩
abbrev cX5_isAddRefused : ByteArray := prog_7_method_59_code
def yX5_isAddRefused : MethodName := ⟨RX5, "isAddRefused", "(II)Z"⟩
abbrev cX5_isNothingRefused : ByteArray := prog_7_method_60_code
def yX5_isNothingRefused : MethodName := ⟨RX5, "isNothingRefused", "(II)Z"⟩
abbrev cX5_mean : ByteArray := prog_7_method_61_code
def yX5_mean : MethodName := ⟨RX5, "mean", "(I)D"⟩
abbrev cX5_fullness : ByteArray := prog_7_method_62_code
def yX5_fullness : MethodName := ⟨RX5, "fullness", "()F"⟩
abbrev cX5_isTrue : ByteArray := prog_7_method_63_code
def yX5_isTrue : MethodName := ⟨RX5, "isTrue", "(I)Z"⟩
abbrev cX5_errors : ByteArray := prog_7_method_64_code
def yX5_errors : MethodName := ⟨RX5, "errors", "()I"⟩
def RJx145de : String := "java/io/Serializable"
def TJx145de : u_T := fun k => match k with
  | _ => ("", "", "", false)
def tyJx145de : Nat → FieldType := fun k => match k with
  | _ => .int
abbrev wsJx145de0 : List Cond := u_ws RJx145de TJx145de 0
theorem nmJx145de : ∀ a, a < 0 → ∀ b, b < 0 → a ≠ b → (TJx145de a).2.1 ≠ (TJx145de b).2.1 := by decide +kernel
theorem tyJx145de_ok : ∀ k, k < 0 → parseFieldDescriptor (TJx145de k).2.2.1 = some (tyJx145de k) := by decide +kernel
def RJ9 : String := "java/lang/Math"
def TJ9 : u_T := fun k => match k with
  | _ => ("", "", "", false)
def tyJ9 : Nat → FieldType := fun k => match k with
  | _ => .int
abbrev wsJ90 : List Cond := u_ws RJ9 TJ9 0
theorem nmJ9 : ∀ a, a < 0 → ∀ b, b < 0 → a ≠ b → (TJ9 a).2.1 ≠ (TJ9 b).2.1 := by decide +kernel
theorem tyJ9_ok : ∀ k, k < 0 → parseFieldDescriptor (TJ9 k).2.2.1 = some (tyJ9 k) := by decide +kernel
abbrev cJ9_abs_067f4 : ByteArray := prog_13_method_61_code
def yJ9_abs_067f4 : MethodName := ⟨RJ9, "abs", "(J)J"⟩
def RJ0 : String := "java/lang/String"
def TJ0 : u_T := fun k => match k with
  | _ => ("", "", "", false)
def tyJ0 : Nat → FieldType := fun k => match k with
  | _ => .int
abbrev wsJ00 : List Cond := u_ws RJ0 TJ0 0
theorem nmJ0 : ∀ a, a < 0 → ∀ b, b < 0 → a ≠ b → (TJ0 a).2.1 ≠ (TJ0 b).2.1 := by decide +kernel
theorem tyJ0_ok : ∀ k, k < 0 → parseFieldDescriptor (TJ0 k).2.2.1 = some (tyJ0 k) := by decide +kernel
def RL : String := "ArrivalbooksLaw"
abbrev cL_rebind : ByteArray := method_3_code
def yL_rebind : MethodName := ⟨RL, "rebind", "(LArrivalbooks;I[J)I"⟩
abbrev cL_put : ByteArray := method_4_code
def yL_put : MethodName := ⟨RL, "put", "(LArrivalbooks;III[J)I"⟩
abbrev cL_putNew : ByteArray := method_5_code
def yL_putNew : MethodName := ⟨RL, "putNew", "(LArrivalbooks;III[J)I"⟩
abbrev cL_add : ByteArray := method_6_code
def yL_add : MethodName := ⟨RL, "add", "(LArrivalbooks;III[J)I"⟩
abbrev cL_halve : ByteArray := method_7_code
def yL_halve : MethodName := ⟨RL, "halve", "(LArrivalbooks;II[J)I"⟩
abbrev cL_addToAll : ByteArray := method_8_code
def yL_addToAll : MethodName := ⟨RL, "addToAll", "(LArrivalbooks;II[J)I"⟩
abbrev cL_replace : ByteArray := method_9_code
def yL_replace : MethodName := ⟨RL, "replace", "(LArrivalbooks;III[J)I"⟩
abbrev cL_remove : ByteArray := method_10_code
def yL_remove : MethodName := ⟨RL, "remove", "(LArrivalbooks;II[J)I"⟩
abbrev cL_removePair : ByteArray := method_11_code
def yL_removePair : MethodName := ⟨RL, "removePair", "(LArrivalbooks;III[J)I"⟩
abbrev cL_fill : ByteArray := method_12_code
def yL_fill : MethodName := ⟨RL, "fill", "(LArrivalbooks;IIII[J)I"⟩
abbrev cL_pour : ByteArray := method_13_code
def yL_pour : MethodName := ⟨RL, "pour", "(LArrivalbooks;II[J)I"⟩
abbrev cL_copy : ByteArray := method_14_code
def yL_copy : MethodName := ⟨RL, "copy", "(LArrivalbooks;II[J)I"⟩
abbrev cL_clear : ByteArray := method_15_code
def yL_clear : MethodName := ⟨RL, "clear", "(LArrivalbooks;I[J)I"⟩
abbrev cL_offer : ByteArray := method_16_code
def yL_offer : MethodName := ⟨RL, "offer", "(LArrivalbooks;I[J)I"⟩
abbrev cL_poll : ByteArray := method_17_code
def yL_poll : MethodName := ⟨RL, "poll", "(LArrivalbooks;[J)I"⟩
abbrev cL_toEnd : ByteArray := method_18_code
def yL_toEnd : MethodName := ⟨RL, "toEnd", "(LArrivalbooks;I[J)I"⟩
abbrev cL_open : ByteArray := method_19_code
def yL_open : MethodName := ⟨RL, "open", "(LArrivalbooks;III[J)I"⟩
abbrev cL_hasNext : ByteArray := method_20_code
def yL_hasNext : MethodName := ⟨RL, "hasNext", "(LArrivalbooks;I[J)I"⟩
abbrev cL_next : ByteArray := method_21_code
def yL_next : MethodName := ⟨RL, "next", "(LArrivalbooks;I[J)I"⟩
abbrev cL_removeAt : ByteArray := method_22_code
def yL_removeAt : MethodName := ⟨RL, "removeAt", "(LArrivalbooks;I[J)I"⟩
abbrev cL_setAt : ByteArray := method_23_code
def yL_setAt : MethodName := ⟨RL, "setAt", "(LArrivalbooks;II[J)I"⟩
abbrev cL_bookOf : ByteArray := method_24_code
def yL_bookOf : MethodName := ⟨RL, "bookOf", "(LArrivalbooks;I[J)I"⟩
abbrev cL_size : ByteArray := method_25_code
def yL_size : MethodName := ⟨RL, "size", "(LArrivalbooks;I[J)I"⟩
abbrev cL_hasKey : ByteArray := method_26_code
def yL_hasKey : MethodName := ⟨RL, "hasKey", "(LArrivalbooks;II[J)I"⟩
abbrev cL_hasValue : ByteArray := method_27_code
def yL_hasValue : MethodName := ⟨RL, "hasValue", "(LArrivalbooks;II[J)I"⟩
abbrev cL_get : ByteArray := method_28_code
def yL_get : MethodName := ⟨RL, "get", "(LArrivalbooks;III[J)I"⟩
abbrev cL_keyAt : ByteArray := method_29_code
def yL_keyAt : MethodName := ⟨RL, "keyAt", "(LArrivalbooks;II[J)I"⟩
abbrev cL_valueAt : ByteArray := method_30_code
def yL_valueAt : MethodName := ⟨RL, "valueAt", "(LArrivalbooks;II[J)I"⟩
abbrev cL_placeOf : ByteArray := method_31_code
def yL_placeOf : MethodName := ⟨RL, "placeOf", "(LArrivalbooks;II[J)I"⟩
abbrev cL_areEqual : ByteArray := method_32_code
def yL_areEqual : MethodName := ⟨RL, "areEqual", "(LArrivalbooks;II[J)I"⟩
abbrev cL_areAlike : ByteArray := method_33_code
def yL_areAlike : MethodName := ⟨RL, "areAlike", "(LArrivalbooks;II[J)I"⟩
abbrev cL_hash : ByteArray := method_34_code
def yL_hash : MethodName := ⟨RL, "hash", "(LArrivalbooks;I[J)I"⟩
abbrev cL_sum : ByteArray := method_35_code
def yL_sum : MethodName := ⟨RL, "sum", "(LArrivalbooks;I[J)I"⟩
abbrev cL_write : ByteArray := method_36_code
def yL_write : MethodName := ⟨RL, "write", "(LArrivalbooks;I[J)I"⟩
abbrev cL_outputAt : ByteArray := method_37_code
def yL_outputAt : MethodName := ⟨RL, "outputAt", "(LArrivalbooks;I[J)I"⟩
abbrev cL_isAddRefused : ByteArray := method_38_code
def yL_isAddRefused : MethodName := ⟨RL, "isAddRefused", "(LArrivalbooks;II[J)I"⟩
abbrev cL_isNothingRefused : ByteArray := method_39_code
def yL_isNothingRefused : MethodName := ⟨RL, "isNothingRefused", "(LArrivalbooks;II[J)I"⟩
abbrev cL_mean : ByteArray := method_40_code
def yL_mean : MethodName := ⟨RL, "mean", "(LArrivalbooks;I[D)I"⟩
abbrev cL_law : ByteArray := code
def yL_law : MethodName := ⟨RL, "law", "([I)Z"⟩
abbrev vwCl : List vw_C := [(RX0, TX0, 4), (RX1, TX1, 6), (RX2, TX2, 4), (RX3, TX3, 2), (RX4, TX4, 9), (RX5, TX5, 11)]
end
section
/-! ===== the good words of the tables, one list for all methods ===== -/
def GW : List Cond := lw_tbl.filter goodWord
theorem GW_tbl {w : Cond} (h : w ∈ GW) : w ∈ lw_tbl := (List.mem_filter.mp h).1
theorem GW_good {w : Cond} (h : w ∈ GW) : goodWord w = true := (List.mem_filter.mp h).2
theorem GW_in {w : Cond} (h : w ∈ lw_tbl) (g : goodWord w = true) : w ∈ GW := List.mem_filter.mpr ⟨h, g⟩
theorem inS {w : Cond} {i : Nat} (h : (k2_sels lw_privs)[i]? = some w) (g : goodWord w = true) : w ∈ GW := GW_in (List.mem_append_left _ (List.mem_of_getElem? h)) g
theorem inT1 {w : Cond} {i : Nat} (h : tables_1_1[i]? = some w) (g : goodWord w = true) : w ∈ GW := GW_in (List.mem_append_right _ (List.mem_append_left _ (List.mem_of_getElem? h))) g
theorem inT2 {w : Cond} {i : Nat} (h : tables_1_2[i]? = some w) (g : goodWord w = true) : w ∈ GW := GW_in (List.mem_append_right _ (List.mem_append_right _ (List.mem_append_left _ (List.mem_of_getElem? h)))) g
theorem inT3 {w : Cond} {i : Nat} (h : tables_1_3[i]? = some w) (g : goodWord w = true) : w ∈ GW := GW_in (List.mem_append_right _ (List.mem_append_right _ (List.mem_append_right _ (List.mem_append_left _ (List.mem_of_getElem? h))))) g
theorem inT4 {w : Cond} {i : Nat} (h : tables_1_4[i]? = some w) (g : goodWord w = true) : w ∈ GW := GW_in (List.mem_append_right _ (List.mem_append_right _ (List.mem_append_right _ (List.mem_append_right _ (List.mem_append_left _ (List.mem_of_getElem? h)))))) g
theorem inT5 {w : Cond} {i : Nat} (h : tables_1_5[i]? = some w) (g : goodWord w = true) : w ∈ GW := GW_in (List.mem_append_right _ (List.mem_append_right _ (List.mem_append_right _ (List.mem_append_right _ (List.mem_append_right _ (List.mem_of_getElem? h)))))) g
theorem inL1 {w : Cond} {i : Nat} (h : tables_1_1[i]? = some w) : w ∈ lw_tbl := List.mem_append_right _ (List.mem_append_left _ (List.mem_of_getElem? h))
theorem inL2 {w : Cond} {i : Nat} (h : tables_1_2[i]? = some w) : w ∈ lw_tbl := List.mem_append_right _ (List.mem_append_right _ (List.mem_append_left _ (List.mem_of_getElem? h)))
theorem inL3 {w : Cond} {i : Nat} (h : tables_1_3[i]? = some w) : w ∈ lw_tbl := List.mem_append_right _ (List.mem_append_right _ (List.mem_append_right _ (List.mem_append_left _ (List.mem_of_getElem? h))))
theorem inL4 {w : Cond} {i : Nat} (h : tables_1_4[i]? = some w) : w ∈ lw_tbl := List.mem_append_right _ (List.mem_append_right _ (List.mem_append_right _ (List.mem_append_right _ (List.mem_append_left _ (List.mem_of_getElem? h)))))
theorem inL5 {w : Cond} {i : Nat} (h : tables_1_5[i]? = some w) : w ∈ lw_tbl := List.mem_append_right _ (List.mem_append_right _ (List.mem_append_right _ (List.mem_append_right _ (List.mem_append_right _ (List.mem_of_getElem? h)))))
theorem in_L : Cond.initialized RL ∈ GW := inT1 (i := 0) rfl rfl
theorem in_X4 : Cond.initialized RX4 ∈ GW := inT1 (i := 1) rfl rfl
theorem in_X1 : Cond.initialized RX1 ∈ GW := inT1 (i := 2) rfl rfl
theorem in_X0 : Cond.initialized RX0 ∈ GW := inT1 (i := 3) rfl rfl
theorem in_X2 : Cond.initialized RX2 ∈ GW := inT1 (i := 4) rfl rfl
theorem in_X3 : Cond.initialized RX3 ∈ GW := inT1 (i := 5) rfl rfl
theorem in_X5 : Cond.initialized RX5 ∈ GW := inT1 (i := 6) rfl rfl
theorem in_Throwable : Cond.initialized "java/lang/Throwable" ∈ GW := inT1 (i := 7) rfl rfl
theorem in_Exception : Cond.initialized "java/lang/Exception" ∈ GW := inT1 (i := 8) rfl rfl
theorem in_RuntimeException : Cond.initialized "java/lang/RuntimeException" ∈ GW := inT1 (i := 9) rfl rfl
theorem in_IllegalArgumentException : Cond.initialized "java/lang/IllegalArgumentException" ∈ GW := inT1 (i := 10) rfl rfl
theorem in_IndexOutOfBoundsException : Cond.initialized "java/lang/IndexOutOfBoundsException" ∈ GW := inT1 (i := 11) rfl rfl
theorem in_IllegalStateException : Cond.initialized "java/lang/IllegalStateException" ∈ GW := inT1 (i := 12) rfl rfl
theorem in_NoSuchElementException : Cond.initialized "java/util/NoSuchElementException" ∈ GW := inT1 (i := 13) rfl rfl
theorem in_J9 : Cond.initialized RJ9 ∈ GW := inT1 (i := 14) rfl rfl
theorem cl_L_8 : Cond.classLink RL 8 RX4 ∈ GW := inT1 (i := 15) rfl rfl
theorem io_X4 : Cond.instantiable RX4 9 ∈ GW := inT1 (i := 16) rfl rfl
theorem ml_L_141 : Cond.methodLink RL 141 yX4_init ∈ GW := inT1 (i := 17) rfl rfl
theorem im_X4_init : Cond.instanceMethod yX4_init ∈ GW := inT1 (i := 18) rfl rfl
theorem co_X4_init : Cond.code yX4_init cX4_init 1 none ∈ GW := inT1 (i := 19) rfl rfl
theorem ml_X4_3 : Cond.methodLink RX4 3 objectInit ∈ GW := inT1 (i := 20) rfl rfl
theorem im_objectInit : Cond.instanceMethod objectInit ∈ GW := inT1 (i := 21) rfl rfl
theorem co_objectInit : Cond.code objectInit ⟨#[0xb1]⟩ 1 none ∈ GW := inT1 (i := 22) rfl rfl
theorem cl_X4_9 : Cond.classLink RX4 9 RX1 ∈ GW := inT1 (i := 23) rfl rfl
theorem io_X1 : Cond.instantiable RX1 6 ∈ GW := inT1 (i := 24) rfl rfl
theorem ml_X4_11 : Cond.methodLink RX4 11 yX1_init ∈ GW := inT1 (i := 25) rfl rfl
theorem im_X1_init : Cond.instanceMethod yX1_init ∈ GW := inT1 (i := 26) rfl rfl
theorem co_X1_init : Cond.code yX1_init cX1_init 3 none ∈ GW := inT1 (i := 27) rfl rfl
theorem ml_X1_3 : Cond.methodLink RX1 3 objectInit ∈ GW := inT1 (i := 28) rfl rfl
theorem cl_X1_18 : Cond.classLink RX1 18 RX0 ∈ GW := inT1 (i := 29) rfl rfl
theorem io_X0 : Cond.instantiable RX0 4 ∈ GW := inT1 (i := 30) rfl rfl
theorem mn_X1_20 : Cond.methodLinkNest RX1 20 yX0_init "Arrivalbooks" ∈ lw_tbl := inL1 (i := 31) rfl
theorem im_X0_init : Cond.instanceMethod yX0_init ∈ GW := inT1 (i := 32) rfl rfl
theorem co_X0_init : Cond.code yX0_init cX0_init 1 none ∈ GW := inT1 (i := 33) rfl rfl
theorem ml_X0_3 : Cond.methodLink RX0 3 objectInit ∈ GW := inT1 (i := 34) rfl rfl
theorem fl_X0_9 : Cond.fieldLink RX0 9 "Arrivalbooks$Arrivals" "keys" "[I" ∈ GW := inT1 (i := 35) rfl rfl
theorem fl_X0_15 : Cond.fieldLink RX0 15 "Arrivalbooks$Arrivals" "times" "[I" ∈ GW := inT1 (i := 36) rfl rfl
theorem fl_X0_18 : Cond.fieldLink RX0 18 "Arrivalbooks$Arrivals" "count" "I" ∈ GW := inT1 (i := 37) rfl rfl
theorem fl_X0_22 : Cond.fieldLink RX0 22 "Arrivalbooks$Arrivals" "now" "I" ∈ GW := inT1 (i := 38) rfl rfl
theorem ac_int : Cond.arrayClass .int ∈ GW := inT1 (i := 48) rfl rfl
theorem fl_X1_9 : Cond.fieldLink RX1 9 "Arrivalbooks$Book" "keys" "[I" ∈ GW := inT1 (i := 49) rfl rfl
theorem fl_X1_15 : Cond.fieldLink RX1 15 "Arrivalbooks$Book" "values" "[I" ∈ GW := inT1 (i := 50) rfl rfl
theorem fl_X1_21 : Cond.fieldLink RX1 21 "Arrivalbooks$Book" "arrivals" "LArrivalbooks$Arrivals;" ∈ GW := inT1 (i := 51) rfl rfl
theorem fl_X4_220 : Cond.fieldLink RX4 220 "Arrivalbooks$Book" "arrivals" "LArrivalbooks$Arrivals;" ∈ GW := inT1 (i := 52) rfl rfl
theorem fl_X1_29 : Cond.fieldLink RX1 29 "Arrivalbooks$Book" "letsGo" "Z" ∈ GW := inT1 (i := 53) rfl rfl
theorem fl_X4_246 : Cond.fieldLink RX4 246 "Arrivalbooks$Book" "letsGo" "Z" ∈ GW := inT1 (i := 54) rfl rfl
theorem fl_X1_25 : Cond.fieldLink RX1 25 "Arrivalbooks$Book" "bound" "I" ∈ GW := inT1 (i := 55) rfl rfl
theorem fl_X4_64 : Cond.fieldLink RX4 64 "Arrivalbooks$Book" "bound" "I" ∈ GW := inT1 (i := 56) rfl rfl
theorem fl_X1_33 : Cond.fieldLink RX1 33 "Arrivalbooks$Book" "count" "I" ∈ GW := inT1 (i := 57) rfl rfl
theorem fl_X4_57 : Cond.fieldLink RX4 57 "Arrivalbooks$Book" "count" "I" ∈ GW := inT1 (i := 58) rfl rfl
theorem fl_X0_29 : Cond.fieldLink RX0 29 "Arrivalbooks$Book" "count" "I" ∈ GW := inT1 (i := 59) rfl rfl
theorem cl_X4_30 : Cond.classLink RX4 30 RX2 ∈ GW := inT1 (i := 73) rfl rfl
theorem io_X2 : Cond.instantiable RX2 4 ∈ GW := inT1 (i := 74) rfl rfl
theorem mn_X4_32 : Cond.methodLinkNest RX4 32 yX2_init "Arrivalbooks" ∈ lw_tbl := inL1 (i := 75) rfl
theorem im_X2_init : Cond.instanceMethod yX2_init ∈ GW := inT1 (i := 76) rfl rfl
theorem co_X2_init : Cond.code yX2_init cX2_init 1 none ∈ GW := inT1 (i := 77) rfl rfl
theorem ml_X2_3 : Cond.methodLink RX2 3 objectInit ∈ GW := inT1 (i := 78) rfl rfl
theorem fl_X2_9 : Cond.fieldLink RX2 9 "Arrivalbooks$Cursor" "book" "I" ∈ GW := inT1 (i := 79) rfl rfl
theorem fl_X4_153 : Cond.fieldLink RX4 153 "Arrivalbooks$Cursor" "book" "I" ∈ GW := inT1 (i := 80) rfl rfl
theorem fl_X2_15 : Cond.fieldLink RX2 15 "Arrivalbooks$Cursor" "kind" "I" ∈ GW := inT1 (i := 81) rfl rfl
theorem fl_X4_161 : Cond.fieldLink RX4 161 "Arrivalbooks$Cursor" "kind" "I" ∈ GW := inT1 (i := 82) rfl rfl
theorem fl_X2_18 : Cond.fieldLink RX2 18 "Arrivalbooks$Cursor" "ahead" "I" ∈ GW := inT1 (i := 83) rfl rfl
theorem fl_X4_150 : Cond.fieldLink RX4 150 "Arrivalbooks$Cursor" "ahead" "I" ∈ GW := inT1 (i := 84) rfl rfl
theorem fl_X2_21 : Cond.fieldLink RX2 21 "Arrivalbooks$Cursor" "isOnPair" "Z" ∈ GW := inT1 (i := 85) rfl rfl
theorem fl_X4_264 : Cond.fieldLink RX4 264 "Arrivalbooks$Cursor" "isOnPair" "Z" ∈ GW := inT1 (i := 86) rfl rfl
theorem cl_X4_43 : Cond.classLink RX4 43 RX3 ∈ GW := inT1 (i := 96) rfl rfl
theorem io_X3 : Cond.instantiable RX3 2 ∈ GW := inT1 (i := 97) rfl rfl
theorem mn_X4_45 : Cond.methodLinkNest RX4 45 yX3_init "Arrivalbooks" ∈ lw_tbl := inL1 (i := 98) rfl
theorem im_X3_init : Cond.instanceMethod yX3_init ∈ GW := inT1 (i := 99) rfl rfl
theorem co_X3_init : Cond.code yX3_init cX3_init 1 none ∈ GW := inT1 (i := 100) rfl rfl
theorem ml_X3_3 : Cond.methodLink RX3 3 objectInit ∈ GW := inT1 (i := 101) rfl rfl
theorem fl_X3_9 : Cond.fieldLink RX3 9 "Arrivalbooks$Output" "signs" "[C" ∈ GW := inT1 (i := 102) rfl rfl
theorem fl_X3_15 : Cond.fieldLink RX3 15 "Arrivalbooks$Output" "length" "I" ∈ GW := inT1 (i := 103) rfl rfl
theorem fl_X4_206 : Cond.fieldLink RX4 206 "Arrivalbooks$Output" "length" "I" ∈ GW := inT1 (i := 104) rfl rfl
theorem ac_char : Cond.arrayClass .char ∈ GW := inT1 (i := 110) rfl rfl
theorem fl_X4_14 : Cond.fieldLink RX4 14 "Arrivalbooks" "firstPlain" "LArrivalbooks$Book;" ∈ GW := inT1 (i := 111) rfl rfl
theorem fl_X4_18 : Cond.fieldLink RX4 18 "Arrivalbooks" "secondPlain" "LArrivalbooks$Book;" ∈ GW := inT1 (i := 112) rfl rfl
theorem fl_X4_21 : Cond.fieldLink RX4 21 "Arrivalbooks" "bounded" "LArrivalbooks$Book;" ∈ GW := inT1 (i := 113) rfl rfl
theorem fl_X4_24 : Cond.fieldLink RX4 24 "Arrivalbooks" "queue" "LArrivalbooks$Book;" ∈ GW := inT1 (i := 114) rfl rfl
theorem fl_X4_27 : Cond.fieldLink RX4 27 "Arrivalbooks" "spare" "LArrivalbooks$Book;" ∈ GW := inT1 (i := 115) rfl rfl
theorem fl_X4_33 : Cond.fieldLink RX4 33 "Arrivalbooks" "firstCursor" "LArrivalbooks$Cursor;" ∈ GW := inT1 (i := 116) rfl rfl
theorem fl_X4_37 : Cond.fieldLink RX4 37 "Arrivalbooks" "secondCursor" "LArrivalbooks$Cursor;" ∈ GW := inT1 (i := 117) rfl rfl
theorem fl_X4_40 : Cond.fieldLink RX4 40 "Arrivalbooks" "thirdCursor" "LArrivalbooks$Cursor;" ∈ GW := inT1 (i := 118) rfl rfl
theorem fl_X4_46 : Cond.fieldLink RX4 46 "Arrivalbooks" "output" "LArrivalbooks$Output;" ∈ GW := inT1 (i := 119) rfl rfl
theorem ml_L_270 : Cond.methodLink RL 270 yX4_fullness ∈ GW := inT1 (i := 139) rfl rfl
theorem im_X4_fullness : Cond.instanceMethod yX4_fullness ∈ GW := inT1 (i := 140) rfl rfl
theorem se_X4_fullness : Cond.selects RX4 yX4_fullness yX4_fullness ∈ GW := inT1 (i := 141) rfl rfl
theorem co_X4_fullness : Cond.code yX4_fullness cX4_fullness 1 (some .float) ∈ GW := inT1 (i := 142) rfl rfl
theorem ml_L_275 : Cond.methodLink RL 275 yX4_errors ∈ GW := inT1 (i := 143) rfl rfl
theorem im_X4_errors : Cond.instanceMethod yX4_errors ∈ GW := inT1 (i := 144) rfl rfl
theorem se_X4_errors : Cond.selects RX4 yX4_errors yX4_errors ∈ GW := inT1 (i := 145) rfl rfl
theorem co_X4_errors : Cond.code yX4_errors cX4_errors 3 (some .int) ∈ GW := inT1 (i := 146) rfl rfl
theorem ml_X4_113 : Cond.methodLink RX4 113 yX4_bookOfNumber ∈ GW := inT1 (i := 147) rfl rfl
theorem im_X4_bookOfNumber : Cond.instanceMethod yX4_bookOfNumber ∈ GW := inT1 (i := 149) rfl rfl
theorem co_X4_bookOfNumber : Cond.code yX4_bookOfNumber cX4_bookOfNumber 2 (some (.object "Arrivalbooks$Book")) ∈ GW := inT1 (i := 150) rfl rfl
theorem cl_X4_235 : Cond.classLink RX4 235 "java/lang/IndexOutOfBoundsException" ∈ GW := inT1 (i := 151) rfl rfl
theorem ca_IndexOutOfBoundsException : Cond.castable "java/lang/IndexOutOfBoundsException" "java/lang/IndexOutOfBoundsException" ∈ lw_tbl := inL1 (i := 153) rfl
theorem ac_byte : Cond.arrayClass .byte ∈ GW := inT1 (i := 219) rfl rfl
theorem ml_X4_217 : Cond.methodLink RX4 217 yX4_isAsTheTheoremTells ∈ GW := inT1 (i := 220) rfl rfl
theorem im_X4_isAsTheTheoremTells : Cond.instanceMethod yX4_isAsTheTheoremTells ∈ GW := inT1 (i := 222) rfl rfl
theorem co_X4_isAsTheTheoremTells : Cond.code yX4_isAsTheTheoremTells cX4_isAsTheTheoremTells 2 (some .boolean) ∈ GW := inT1 (i := 223) rfl rfl
theorem ml_X4_224 : Cond.methodLink RX4 224 yX0_tellOf ∈ GW := inT1 (i := 224) rfl rfl
theorem im_X0_tellOf : Cond.instanceMethod yX0_tellOf ∈ GW := inT1 (i := 225) rfl rfl
theorem se_X0_tellOf : Cond.selects RX0 yX0_tellOf yX0_tellOf ∈ GW := inT1 (i := 226) rfl rfl
theorem co_X0_tellOf : Cond.code yX0_tellOf cX0_tellOf 5 (some .boolean) ∈ GW := inT1 (i := 227) rfl rfl
theorem ml_X0_32 : Cond.methodLink RX0 32 yX1_keyOn ∈ GW := inT1 (i := 228) rfl rfl
theorem im_X1_keyOn : Cond.instanceMethod yX1_keyOn ∈ GW := inT1 (i := 229) rfl rfl
theorem se_X1_keyOn : Cond.selects RX1 yX1_keyOn yX1_keyOn ∈ GW := inT1 (i := 230) rfl rfl
theorem co_X1_keyOn : Cond.code yX1_keyOn cX1_keyOn 2 (some .int) ∈ GW := inT1 (i := 231) rfl rfl
theorem ml_X1_36 : Cond.methodLink RX1 36 yX1_reaches ∈ GW := inT1 (i := 232) rfl rfl
theorem im_X1_reaches : Cond.instanceMethod yX1_reaches ∈ GW := inT1 (i := 233) rfl rfl
theorem se_X1_reaches : Cond.selects RX1 yX1_reaches yX1_reaches ∈ GW := inT1 (i := 234) rfl rfl
theorem co_X1_reaches : Cond.code yX1_reaches cX1_reaches 2 (some .boolean) ∈ GW := inT1 (i := 235) rfl rfl
theorem ml_X0_25 : Cond.methodLink RX0 25 yX0_indexOfKey ∈ GW := inT1 (i := 236) rfl rfl
theorem im_X0_indexOfKey : Cond.instanceMethod yX0_indexOfKey ∈ GW := inT1 (i := 238) rfl rfl
theorem co_X0_indexOfKey : Cond.code yX0_indexOfKey cX0_indexOfKey 3 (some .int) ∈ GW := inT1 (i := 239) rfl rfl
theorem ml_X4_229 : Cond.methodLink RX4 229 yX4_isCopyInOrder ∈ GW := inT2 (i := 0) rfl rfl
theorem im_X4_isCopyInOrder : Cond.instanceMethod yX4_isCopyInOrder ∈ GW := inT2 (i := 2) rfl rfl
theorem co_X4_isCopyInOrder : Cond.code yX4_isCopyInOrder cX4_isCopyInOrder 2 (some .boolean) ∈ GW := inT2 (i := 3) rfl rfl
theorem ml_X4_127 : Cond.methodLink RX4 127 yX1_becomeCopyOf ∈ GW := inT2 (i := 4) rfl rfl
theorem im_X1_becomeCopyOf : Cond.instanceMethod yX1_becomeCopyOf ∈ GW := inT2 (i := 5) rfl rfl
theorem se_X1_becomeCopyOf : Cond.selects RX1 yX1_becomeCopyOf yX1_becomeCopyOf ∈ GW := inT2 (i := 6) rfl rfl
theorem co_X1_becomeCopyOf : Cond.code yX1_becomeCopyOf cX1_becomeCopyOf 3 none ∈ GW := inT2 (i := 7) rfl rfl
theorem ml_X1_74 : Cond.methodLink RX1 74 yX1_empty ∈ GW := inT2 (i := 8) rfl rfl
theorem im_X1_empty : Cond.instanceMethod yX1_empty ∈ GW := inT2 (i := 9) rfl rfl
theorem se_X1_empty : Cond.selects RX1 yX1_empty yX1_empty ∈ GW := inT2 (i := 10) rfl rfl
theorem co_X1_empty : Cond.code yX1_empty cX1_empty 1 none ∈ GW := inT2 (i := 11) rfl rfl
theorem ml_X1_61 : Cond.methodLink RX1 61 yX0_allWentOut ∈ GW := inT2 (i := 12) rfl rfl
theorem im_X0_allWentOut : Cond.instanceMethod yX0_allWentOut ∈ GW := inT2 (i := 13) rfl rfl
theorem se_X0_allWentOut : Cond.selects RX0 yX0_allWentOut yX0_allWentOut ∈ GW := inT2 (i := 14) rfl rfl
theorem co_X0_allWentOut : Cond.code yX0_allWentOut cX0_allWentOut 1 none ∈ GW := inT2 (i := 15) rfl rfl
theorem ml_X1_64 : Cond.methodLink RX1 64 yX1_keyOn ∈ GW := inT2 (i := 16) rfl rfl
theorem ml_X1_67 : Cond.methodLink RX1 67 yX1_valueOn ∈ GW := inT2 (i := 17) rfl rfl
theorem im_X1_valueOn : Cond.instanceMethod yX1_valueOn ∈ GW := inT2 (i := 18) rfl rfl
theorem se_X1_valueOn : Cond.selects RX1 yX1_valueOn yX1_valueOn ∈ GW := inT2 (i := 19) rfl rfl
theorem co_X1_valueOn : Cond.code yX1_valueOn cX1_valueOn 2 (some .int) ∈ GW := inT2 (i := 20) rfl rfl
theorem ml_X1_51 : Cond.methodLink RX1 51 yX1_enter ∈ GW := inT2 (i := 21) rfl rfl
theorem im_X1_enter : Cond.instanceMethod yX1_enter ∈ GW := inT2 (i := 22) rfl rfl
theorem se_X1_enter : Cond.selects RX1 yX1_enter yX1_enter ∈ GW := inT2 (i := 23) rfl rfl
theorem co_X1_enter : Cond.code yX1_enter cX1_enter 3 none ∈ GW := inT2 (i := 24) rfl rfl
theorem ml_X1_40 : Cond.methodLink RX1 40 yX0_cameIn ∈ GW := inT2 (i := 25) rfl rfl
theorem im_X0_cameIn : Cond.instanceMethod yX0_cameIn ∈ GW := inT2 (i := 26) rfl rfl
theorem se_X0_cameIn : Cond.selects RX0 yX0_cameIn yX0_cameIn ∈ GW := inT2 (i := 27) rfl rfl
theorem co_X0_cameIn : Cond.code yX0_cameIn cX0_cameIn 2 none ∈ GW := inT2 (i := 28) rfl rfl
theorem ml_X1_44 : Cond.methodLink RX1 44 yX1_leave ∈ GW := inT2 (i := 29) rfl rfl
theorem im_X1_leave : Cond.instanceMethod yX1_leave ∈ GW := inT2 (i := 30) rfl rfl
theorem se_X1_leave : Cond.selects RX1 yX1_leave yX1_leave ∈ GW := inT2 (i := 31) rfl rfl
theorem co_X1_leave : Cond.code yX1_leave cX1_leave 3 none ∈ GW := inT2 (i := 32) rfl rfl
theorem ml_X1_58 : Cond.methodLink RX1 58 yX0_wentOut ∈ GW := inT2 (i := 33) rfl rfl
theorem im_X0_wentOut : Cond.instanceMethod yX0_wentOut ∈ GW := inT2 (i := 34) rfl rfl
theorem se_X0_wentOut : Cond.selects RX0 yX0_wentOut yX0_wentOut ∈ GW := inT2 (i := 35) rfl rfl
theorem co_X0_wentOut : Cond.code yX0_wentOut cX0_wentOut 3 none ∈ GW := inT2 (i := 36) rfl rfl
theorem ml_X4_188 : Cond.methodLink RX4 188 yX1_hasRowOf ∈ GW := inT2 (i := 37) rfl rfl
theorem im_X1_hasRowOf : Cond.instanceMethod yX1_hasRowOf ∈ GW := inT2 (i := 38) rfl rfl
theorem se_X1_hasRowOf : Cond.selects RX1 yX1_hasRowOf yX1_hasRowOf ∈ GW := inT2 (i := 39) rfl rfl
theorem co_X1_hasRowOf : Cond.code yX1_hasRowOf cX1_hasRowOf 3 (some .boolean) ∈ GW := inT2 (i := 40) rfl rfl
theorem ml_X4_232 : Cond.methodLink RX4 232 yX4_isEqualInOppositeOrder ∈ GW := inT2 (i := 41) rfl rfl
theorem im_X4_isEqualInOppositeOrder : Cond.instanceMethod yX4_isEqualInOppositeOrder ∈ GW := inT2 (i := 43) rfl rfl
theorem co_X4_isEqualInOppositeOrder : Cond.code yX4_isEqualInOppositeOrder cX4_isEqualInOppositeOrder 3 (some .boolean) ∈ GW := inT2 (i := 44) rfl rfl
theorem ml_X4_61 : Cond.methodLink RX4 61 yX1_empty ∈ GW := inT2 (i := 45) rfl rfl
theorem ml_X4_132 : Cond.methodLink RX4 132 yX1_keyOn ∈ GW := inT2 (i := 46) rfl rfl
theorem ml_X4_93 : Cond.methodLink RX4 93 yX1_valueOn ∈ GW := inT2 (i := 47) rfl rfl
theorem ml_X4_90 : Cond.methodLink RX4 90 yX1_enter ∈ GW := inT2 (i := 48) rfl rfl
theorem ml_X4_184 : Cond.methodLink RX4 184 yX1_hasPairsOf ∈ GW := inT2 (i := 49) rfl rfl
theorem im_X1_hasPairsOf : Cond.instanceMethod yX1_hasPairsOf ∈ GW := inT2 (i := 50) rfl rfl
theorem se_X1_hasPairsOf : Cond.selects RX1 yX1_hasPairsOf yX1_hasPairsOf ∈ GW := inT2 (i := 51) rfl rfl
theorem co_X1_hasPairsOf : Cond.code yX1_hasPairsOf cX1_hasPairsOf 4 (some .boolean) ∈ GW := inT2 (i := 52) rfl rfl
theorem ml_X1_47 : Cond.methodLink RX1 47 yX1_find ∈ GW := inT2 (i := 53) rfl rfl
theorem im_X1_find : Cond.instanceMethod yX1_find ∈ GW := inT2 (i := 54) rfl rfl
theorem se_X1_find : Cond.selects RX1 yX1_find yX1_find ∈ GW := inT2 (i := 55) rfl rfl
theorem co_X1_find : Cond.code yX1_find cX1_find 3 (some .int) ∈ GW := inT2 (i := 56) rfl rfl
theorem ml_X4_191 : Cond.methodLink RX4 191 yX1_mixed ∈ GW := inT2 (i := 57) rfl rfl
theorem im_X1_mixed : Cond.instanceMethod yX1_mixed ∈ GW := inT2 (i := 58) rfl rfl
theorem se_X1_mixed : Cond.selects RX1 yX1_mixed yX1_mixed ∈ GW := inT2 (i := 59) rfl rfl
theorem co_X1_mixed : Cond.code yX1_mixed cX1_mixed 3 (some .int) ∈ GW := inT2 (i := 60) rfl rfl
theorem ml_L_145 : Cond.methodLink RL 145 yL_rebind ∈ GW := inT2 (i := 61) rfl rfl
theorem st_L_rebind : Cond.static yL_rebind ∈ GW := inT2 (i := 62) rfl rfl
theorem co_L_rebind : Cond.codeWith yL_rebind cL_rebind 4 (some .int) [(0, 9, 12, 13)] ∈ GW := inT2 (i := 63) rfl rfl
theorem cl_L_13 : Cond.classLink RL 13 "java/lang/IllegalArgumentException" ∈ GW := inT2 (i := 64) rfl rfl
theorem ml_L_7 : Cond.methodLink RL 7 yX4_rebind ∈ GW := inT2 (i := 65) rfl rfl
theorem im_X4_rebind : Cond.instanceMethod yX4_rebind ∈ GW := inT2 (i := 66) rfl rfl
theorem se_X4_rebind : Cond.selects RX4 yX4_rebind yX4_rebind ∈ GW := inT2 (i := 67) rfl rfl
theorem co_X4_rebind : Cond.code yX4_rebind cX4_rebind 3 (some .int) ∈ GW := inT2 (i := 68) rfl rfl
theorem cl_X4_50 : Cond.classLink RX4 50 "java/lang/IllegalArgumentException" ∈ GW := inT2 (i := 69) rfl rfl
theorem ca_IllegalArgumentException : Cond.castable "java/lang/IllegalArgumentException" "java/lang/IllegalArgumentException" ∈ lw_tbl := inL2 (i := 71) rfl
theorem ml_X4_67 : Cond.methodLink RX4 67 yX4_closeCursors ∈ GW := inT2 (i := 85) rfl rfl
theorem im_X4_closeCursors : Cond.instanceMethod yX4_closeCursors ∈ GW := inT2 (i := 87) rfl rfl
theorem co_X4_closeCursors : Cond.code yX4_closeCursors cX4_closeCursors 5 none ∈ GW := inT2 (i := 88) rfl rfl
theorem ml_X4_137 : Cond.methodLink RX4 137 yX4_cursorOfNumber ∈ GW := inT2 (i := 89) rfl rfl
theorem im_X4_cursorOfNumber : Cond.instanceMethod yX4_cursorOfNumber ∈ GW := inT2 (i := 91) rfl rfl
theorem co_X4_cursorOfNumber : Cond.code yX4_cursorOfNumber cX4_cursorOfNumber 2 (some (.object "Arrivalbooks$Cursor")) ∈ GW := inT2 (i := 92) rfl rfl
theorem ml_X4_269 : Cond.methodLink RX4 269 yX2_close ∈ GW := inT2 (i := 94) rfl rfl
theorem im_X2_close : Cond.instanceMethod yX2_close ∈ GW := inT2 (i := 95) rfl rfl
theorem se_X2_close : Cond.selects RX2 yX2_close yX2_close ∈ GW := inT2 (i := 96) rfl rfl
theorem co_X2_close : Cond.code yX2_close cX2_close 1 none ∈ GW := inT2 (i := 97) rfl rfl
theorem ml_L_154 : Cond.methodLink RL 154 yL_put ∈ GW := inT2 (i := 98) rfl rfl
theorem st_L_put : Cond.static yL_put ∈ GW := inT2 (i := 99) rfl rfl
theorem co_L_put : Cond.codeWith yL_put cL_put 6 (some .int) [(0, 19, 22, 19), (0, 19, 26, 13), (0, 19, 30, 21)] ∈ GW := inT2 (i := 100) rfl rfl
theorem cl_L_19 : Cond.classLink RL 19 "java/lang/IndexOutOfBoundsException" ∈ GW := inT2 (i := 101) rfl rfl
theorem cl_L_21 : Cond.classLink RL 21 "java/lang/IllegalStateException" ∈ GW := inT2 (i := 102) rfl rfl
theorem ml_L_15 : Cond.methodLink RL 15 yX4_put ∈ GW := inT2 (i := 103) rfl rfl
theorem im_X4_put : Cond.instanceMethod yX4_put ∈ GW := inT2 (i := 104) rfl rfl
theorem se_X4_put : Cond.selects RX4 yX4_put yX4_put ∈ GW := inT2 (i := 105) rfl rfl
theorem co_X4_put : Cond.code yX4_put cX4_put 5 (some .boolean) ∈ GW := inT2 (i := 106) rfl rfl
theorem ml_X4_71 : Cond.methodLink RX4 71 yX4_bookChangedByHand ∈ GW := inT2 (i := 107) rfl rfl
theorem im_X4_bookChangedByHand : Cond.instanceMethod yX4_bookChangedByHand ∈ GW := inT2 (i := 109) rfl rfl
theorem co_X4_bookChangedByHand : Cond.code yX4_bookChangedByHand cX4_bookChangedByHand 3 (some (.object "Arrivalbooks$Book")) ∈ GW := inT2 (i := 110) rfl rfl
theorem ml_X4_75 : Cond.methodLink RX4 75 yX4_requireRoomForKey ∈ GW := inT2 (i := 112) rfl rfl
theorem im_X4_requireRoomForKey : Cond.instanceMethod yX4_requireRoomForKey ∈ GW := inT2 (i := 114) rfl rfl
theorem co_X4_requireRoomForKey : Cond.code yX4_requireRoomForKey cX4_requireRoomForKey 3 none ∈ GW := inT2 (i := 115) rfl rfl
theorem ml_X4_86 : Cond.methodLink RX4 86 yX1_find ∈ GW := inT2 (i := 116) rfl rfl
theorem ml_X4_110 : Cond.methodLink RX4 110 yX4_requireRoom ∈ GW := inT2 (i := 117) rfl rfl
theorem im_X4_requireRoom : Cond.instanceMethod yX4_requireRoom ∈ GW := inT2 (i := 119) rfl rfl
theorem co_X4_requireRoom : Cond.code yX4_requireRoom cX4_requireRoom 3 none ∈ GW := inT2 (i := 120) rfl rfl
theorem cl_X4_250 : Cond.classLink RX4 250 "java/lang/IllegalStateException" ∈ GW := inT2 (i := 121) rfl rfl
theorem ca_IllegalStateException : Cond.castable "java/lang/IllegalStateException" "java/lang/IllegalStateException" ∈ lw_tbl := inL2 (i := 123) rfl
theorem ml_X4_79 : Cond.methodLink RX4 79 yX1_store ∈ GW := inT2 (i := 137) rfl rfl
theorem im_X1_store : Cond.instanceMethod yX1_store ∈ GW := inT2 (i := 138) rfl rfl
theorem se_X1_store : Cond.selects RX1 yX1_store yX1_store ∈ GW := inT2 (i := 139) rfl rfl
theorem co_X1_store : Cond.code yX1_store cX1_store 4 (some .boolean) ∈ GW := inT2 (i := 140) rfl rfl
theorem ml_X1_55 : Cond.methodLink RX1 55 yX1_give ∈ GW := inT2 (i := 141) rfl rfl
theorem im_X1_give : Cond.instanceMethod yX1_give ∈ GW := inT2 (i := 142) rfl rfl
theorem se_X1_give : Cond.selects RX1 yX1_give yX1_give ∈ GW := inT2 (i := 143) rfl rfl
theorem co_X1_give : Cond.code yX1_give cX1_give 3 none ∈ GW := inT2 (i := 144) rfl rfl
theorem ml_L_158 : Cond.methodLink RL 158 yL_putNew ∈ GW := inT2 (i := 145) rfl rfl
theorem st_L_putNew : Cond.static yL_putNew ∈ GW := inT2 (i := 146) rfl rfl
theorem co_L_putNew : Cond.codeWith yL_putNew cL_putNew 6 (some .int) [(0, 12, 15, 19), (0, 12, 19, 13), (0, 12, 23, 21)] ∈ GW := inT2 (i := 147) rfl rfl
theorem ml_L_23 : Cond.methodLink RL 23 yX4_putNew ∈ GW := inT2 (i := 148) rfl rfl
theorem im_X4_putNew : Cond.instanceMethod yX4_putNew ∈ GW := inT2 (i := 149) rfl rfl
theorem se_X4_putNew : Cond.selects RX4 yX4_putNew yX4_putNew ∈ GW := inT2 (i := 150) rfl rfl
theorem co_X4_putNew : Cond.code yX4_putNew cX4_putNew 6 (some .int) ∈ GW := inT2 (i := 151) rfl rfl
theorem ml_X4_83 : Cond.methodLink RX4 83 yX4_plainBook ∈ GW := inT2 (i := 152) rfl rfl
theorem im_X4_plainBook : Cond.instanceMethod yX4_plainBook ∈ GW := inT2 (i := 154) rfl rfl
theorem co_X4_plainBook : Cond.code yX4_plainBook cX4_plainBook 3 (some (.object "Arrivalbooks$Book")) ∈ GW := inT2 (i := 155) rfl rfl
theorem ml_L_161 : Cond.methodLink RL 161 yL_add ∈ GW := inT2 (i := 157) rfl rfl
theorem st_L_add : Cond.static yL_add ∈ GW := inT2 (i := 158) rfl rfl
theorem co_L_add : Cond.codeWith yL_add cL_add 6 (some .int) [(0, 12, 15, 19), (0, 12, 19, 13), (0, 12, 23, 21)] ∈ GW := inT2 (i := 159) rfl rfl
theorem ml_L_27 : Cond.methodLink RL 27 yX4_add ∈ GW := inT2 (i := 160) rfl rfl
theorem im_X4_add : Cond.instanceMethod yX4_add ∈ GW := inT2 (i := 161) rfl rfl
theorem se_X4_add : Cond.selects RX4 yX4_add yX4_add ∈ GW := inT2 (i := 162) rfl rfl
theorem co_X4_add : Cond.code yX4_add cX4_add 7 (some .int) ∈ GW := inT2 (i := 163) rfl rfl
theorem ml_L_164 : Cond.methodLink RL 164 yL_halve ∈ GW := inT2 (i := 164) rfl rfl
theorem st_L_halve : Cond.static yL_halve ∈ GW := inT2 (i := 165) rfl rfl
theorem co_L_halve : Cond.codeWith yL_halve cL_halve 5 (some .int) [(0, 17, 20, 19), (0, 17, 24, 13)] ∈ GW := inT2 (i := 166) rfl rfl
theorem ml_L_30 : Cond.methodLink RL 30 yX4_halve ∈ GW := inT2 (i := 167) rfl rfl
theorem im_X4_halve : Cond.instanceMethod yX4_halve ∈ GW := inT2 (i := 168) rfl rfl
theorem se_X4_halve : Cond.selects RX4 yX4_halve yX4_halve ∈ GW := inT2 (i := 169) rfl rfl
theorem co_X4_halve : Cond.code yX4_halve cX4_halve 6 (some .boolean) ∈ GW := inT2 (i := 170) rfl rfl
theorem ml_X4_96 : Cond.methodLink RX4 96 yX1_leave ∈ GW := inT2 (i := 171) rfl rfl
theorem ml_X4_100 : Cond.methodLink RX4 100 yX1_give ∈ GW := inT2 (i := 172) rfl rfl
theorem ml_L_168 : Cond.methodLink RL 168 yL_addToAll ∈ GW := inT2 (i := 173) rfl rfl
theorem st_L_addToAll : Cond.static yL_addToAll ∈ GW := inT2 (i := 174) rfl rfl
theorem co_L_addToAll : Cond.codeWith yL_addToAll cL_addToAll 5 (some .int) [(0, 10, 13, 19), (0, 10, 17, 13)] ∈ GW := inT2 (i := 175) rfl rfl
theorem ml_L_34 : Cond.methodLink RL 34 yX4_addToAll ∈ GW := inT2 (i := 176) rfl rfl
theorem im_X4_addToAll : Cond.instanceMethod yX4_addToAll ∈ GW := inT2 (i := 177) rfl rfl
theorem se_X4_addToAll : Cond.selects RX4 yX4_addToAll yX4_addToAll ∈ GW := inT2 (i := 178) rfl rfl
theorem co_X4_addToAll : Cond.code yX4_addToAll cX4_addToAll 5 (some .int) ∈ GW := inT2 (i := 179) rfl rfl
theorem ml_L_171 : Cond.methodLink RL 171 yL_replace ∈ GW := inT2 (i := 180) rfl rfl
theorem st_L_replace : Cond.static yL_replace ∈ GW := inT2 (i := 181) rfl rfl
theorem co_L_replace : Cond.codeWith yL_replace cL_replace 6 (some .int) [(0, 19, 22, 19), (0, 19, 26, 13)] ∈ GW := inT2 (i := 182) rfl rfl
theorem ml_L_38 : Cond.methodLink RL 38 yX4_replace ∈ GW := inT2 (i := 183) rfl rfl
theorem im_X4_replace : Cond.instanceMethod yX4_replace ∈ GW := inT2 (i := 184) rfl rfl
theorem se_X4_replace : Cond.selects RX4 yX4_replace yX4_replace ∈ GW := inT2 (i := 185) rfl rfl
theorem co_X4_replace : Cond.code yX4_replace cX4_replace 6 (some .boolean) ∈ GW := inT2 (i := 186) rfl rfl
theorem ml_L_174 : Cond.methodLink RL 174 yL_remove ∈ GW := inT2 (i := 187) rfl rfl
theorem st_L_remove : Cond.static yL_remove ∈ GW := inT2 (i := 188) rfl rfl
theorem co_L_remove : Cond.codeWith yL_remove cL_remove 5 (some .int) [(0, 10, 13, 19), (0, 10, 17, 13), (0, 10, 21, 44)] ∈ GW := inT2 (i := 189) rfl rfl
theorem cl_L_44 : Cond.classLink RL 44 "java/util/NoSuchElementException" ∈ GW := inT2 (i := 190) rfl rfl
theorem ml_L_41 : Cond.methodLink RL 41 yX4_remove ∈ GW := inT2 (i := 191) rfl rfl
theorem im_X4_remove : Cond.instanceMethod yX4_remove ∈ GW := inT2 (i := 192) rfl rfl
theorem se_X4_remove : Cond.selects RX4 yX4_remove yX4_remove ∈ GW := inT2 (i := 193) rfl rfl
theorem co_X4_remove : Cond.code yX4_remove cX4_remove 6 (some .int) ∈ GW := inT2 (i := 194) rfl rfl
theorem cl_X4_103 : Cond.classLink RX4 103 "java/util/NoSuchElementException" ∈ GW := inT2 (i := 195) rfl rfl
theorem ca_NoSuchElementException : Cond.castable "java/util/NoSuchElementException" "java/util/NoSuchElementException" ∈ lw_tbl := inL2 (i := 197) rfl
theorem ml_L_177 : Cond.methodLink RL 177 yL_removePair ∈ GW := inT2 (i := 211) rfl rfl
theorem st_L_removePair : Cond.static yL_removePair ∈ GW := inT2 (i := 212) rfl rfl
theorem co_L_removePair : Cond.codeWith yL_removePair cL_removePair 6 (some .int) [(0, 19, 22, 19), (0, 19, 26, 13)] ∈ GW := inT2 (i := 213) rfl rfl
theorem ml_L_46 : Cond.methodLink RL 46 yX4_removePair ∈ GW := inT2 (i := 214) rfl rfl
theorem im_X4_removePair : Cond.instanceMethod yX4_removePair ∈ GW := inT2 (i := 215) rfl rfl
theorem se_X4_removePair : Cond.selects RX4 yX4_removePair yX4_removePair ∈ GW := inT2 (i := 216) rfl rfl
theorem co_X4_removePair : Cond.code yX4_removePair cX4_removePair 6 (some .boolean) ∈ GW := inT2 (i := 217) rfl rfl
theorem ml_L_180 : Cond.methodLink RL 180 yL_fill ∈ GW := inT2 (i := 218) rfl rfl
theorem st_L_fill : Cond.static yL_fill ∈ GW := inT2 (i := 219) rfl rfl
theorem co_L_fill : Cond.codeWith yL_fill cL_fill 7 (some .int) [(0, 14, 17, 19), (0, 14, 21, 13), (0, 14, 25, 21)] ∈ GW := inT2 (i := 220) rfl rfl
theorem ml_L_49 : Cond.methodLink RL 49 yX4_fill ∈ GW := inT2 (i := 221) rfl rfl
theorem im_X4_fill : Cond.instanceMethod yX4_fill ∈ GW := inT2 (i := 222) rfl rfl
theorem se_X4_fill : Cond.selects RX4 yX4_fill yX4_fill ∈ GW := inT2 (i := 223) rfl rfl
theorem co_X4_fill : Cond.code yX4_fill cX4_fill 8 (some .int) ∈ GW := inT2 (i := 224) rfl rfl
theorem ml_L_184 : Cond.methodLink RL 184 yL_pour ∈ GW := inT2 (i := 226) rfl rfl
theorem st_L_pour : Cond.static yL_pour ∈ GW := inT2 (i := 227) rfl rfl
theorem co_L_pour : Cond.codeWith yL_pour cL_pour 5 (some .int) [(0, 10, 13, 19), (0, 10, 17, 13), (0, 10, 21, 21)] ∈ GW := inT2 (i := 228) rfl rfl
theorem ml_L_53 : Cond.methodLink RL 53 yX4_pour ∈ GW := inT2 (i := 229) rfl rfl
theorem im_X4_pour : Cond.instanceMethod yX4_pour ∈ GW := inT2 (i := 230) rfl rfl
theorem se_X4_pour : Cond.selects RX4 yX4_pour yX4_pour ∈ GW := inT2 (i := 231) rfl rfl
theorem co_X4_pour : Cond.code yX4_pour cX4_pour 5 (some .int) ∈ GW := inT2 (i := 232) rfl rfl
theorem ml_X4_116 : Cond.methodLink RX4 116 yX4_requireTwoBooks ∈ GW := inT2 (i := 233) rfl rfl
theorem im_X4_requireTwoBooks : Cond.instanceMethod yX4_requireTwoBooks ∈ GW := inT2 (i := 235) rfl rfl
theorem co_X4_requireTwoBooks : Cond.code yX4_requireTwoBooks cX4_requireTwoBooks 3 none ∈ GW := inT2 (i := 236) rfl rfl
theorem ml_X4_119 : Cond.methodLink RX4 119 yX1_countMissingIn ∈ GW := inT2 (i := 238) rfl rfl
theorem im_X1_countMissingIn : Cond.instanceMethod yX1_countMissingIn ∈ GW := inT2 (i := 239) rfl rfl
theorem se_X1_countMissingIn : Cond.selects RX1 yX1_countMissingIn yX1_countMissingIn ∈ GW := inT3 (i := 0) rfl rfl
theorem co_X1_countMissingIn : Cond.code yX1_countMissingIn cX1_countMissingIn 4 (some .int) ∈ GW := inT3 (i := 1) rfl rfl
theorem ml_X4_123 : Cond.methodLink RX4 123 yX1_storeAllOf ∈ GW := inT3 (i := 2) rfl rfl
theorem im_X1_storeAllOf : Cond.instanceMethod yX1_storeAllOf ∈ GW := inT3 (i := 3) rfl rfl
theorem se_X1_storeAllOf : Cond.selects RX1 yX1_storeAllOf yX1_storeAllOf ∈ GW := inT3 (i := 4) rfl rfl
theorem co_X1_storeAllOf : Cond.code yX1_storeAllOf cX1_storeAllOf 3 none ∈ GW := inT3 (i := 5) rfl rfl
theorem ml_X1_70 : Cond.methodLink RX1 70 yX1_store ∈ GW := inT3 (i := 6) rfl rfl
theorem ml_L_187 : Cond.methodLink RL 187 yL_copy ∈ GW := inT3 (i := 7) rfl rfl
theorem st_L_copy : Cond.static yL_copy ∈ GW := inT3 (i := 8) rfl rfl
theorem co_L_copy : Cond.codeWith yL_copy cL_copy 5 (some .int) [(0, 10, 13, 19), (0, 10, 17, 13)] ∈ GW := inT3 (i := 9) rfl rfl
theorem ml_L_56 : Cond.methodLink RL 56 yX4_copy ∈ GW := inT3 (i := 10) rfl rfl
theorem im_X4_copy : Cond.instanceMethod yX4_copy ∈ GW := inT3 (i := 11) rfl rfl
theorem se_X4_copy : Cond.selects RX4 yX4_copy yX4_copy ∈ GW := inT3 (i := 12) rfl rfl
theorem co_X4_copy : Cond.code yX4_copy cX4_copy 5 (some .int) ∈ GW := inT3 (i := 13) rfl rfl
theorem ml_L_190 : Cond.methodLink RL 190 yL_clear ∈ GW := inT3 (i := 14) rfl rfl
theorem st_L_clear : Cond.static yL_clear ∈ GW := inT3 (i := 15) rfl rfl
theorem co_L_clear : Cond.codeWith yL_clear cL_clear 4 (some .int) [(0, 9, 12, 19), (0, 9, 15, 13)] ∈ GW := inT3 (i := 16) rfl rfl
theorem ml_L_59 : Cond.methodLink RL 59 yX4_clear ∈ GW := inT3 (i := 17) rfl rfl
theorem im_X4_clear : Cond.instanceMethod yX4_clear ∈ GW := inT3 (i := 18) rfl rfl
theorem se_X4_clear : Cond.selects RX4 yX4_clear yX4_clear ∈ GW := inT3 (i := 19) rfl rfl
theorem co_X4_clear : Cond.code yX4_clear cX4_clear 4 (some .int) ∈ GW := inT3 (i := 20) rfl rfl
theorem ml_L_193 : Cond.methodLink RL 193 yL_offer ∈ GW := inT3 (i := 21) rfl rfl
theorem st_L_offer : Cond.static yL_offer ∈ GW := inT3 (i := 22) rfl rfl
theorem co_L_offer : Cond.codeWith yL_offer cL_offer 4 (some .int) [(0, 16, 19, 21)] ∈ GW := inT3 (i := 23) rfl rfl
theorem ml_L_62 : Cond.methodLink RL 62 yX4_offer ∈ GW := inT3 (i := 24) rfl rfl
theorem im_X4_offer : Cond.instanceMethod yX4_offer ∈ GW := inT3 (i := 25) rfl rfl
theorem se_X4_offer : Cond.selects RX4 yX4_offer yX4_offer ∈ GW := inT3 (i := 26) rfl rfl
theorem co_X4_offer : Cond.code yX4_offer cX4_offer 3 (some .boolean) ∈ GW := inT3 (i := 27) rfl rfl
theorem ml_L_196 : Cond.methodLink RL 196 yL_poll ∈ GW := inT3 (i := 28) rfl rfl
theorem st_L_poll : Cond.static yL_poll ∈ GW := inT3 (i := 29) rfl rfl
theorem co_L_poll : Cond.codeWith yL_poll cL_poll 3 (some .int) [(0, 8, 11, 44)] ∈ GW := inT3 (i := 30) rfl rfl
theorem ml_L_66 : Cond.methodLink RL 66 yX4_poll ∈ GW := inT3 (i := 31) rfl rfl
theorem im_X4_poll : Cond.instanceMethod yX4_poll ∈ GW := inT3 (i := 32) rfl rfl
theorem se_X4_poll : Cond.selects RX4 yX4_poll yX4_poll ∈ GW := inT3 (i := 33) rfl rfl
theorem co_X4_poll : Cond.code yX4_poll cX4_poll 2 (some .int) ∈ GW := inT3 (i := 34) rfl rfl
theorem ml_L_200 : Cond.methodLink RL 200 yL_toEnd ∈ GW := inT3 (i := 36) rfl rfl
theorem st_L_toEnd : Cond.static yL_toEnd ∈ GW := inT3 (i := 37) rfl rfl
theorem co_L_toEnd : Cond.codeWith yL_toEnd cL_toEnd 4 (some .int) [(0, 9, 12, 44)] ∈ GW := inT3 (i := 38) rfl rfl
theorem ml_L_70 : Cond.methodLink RL 70 yX4_toEnd ∈ GW := inT3 (i := 39) rfl rfl
theorem im_X4_toEnd : Cond.instanceMethod yX4_toEnd ∈ GW := inT3 (i := 40) rfl rfl
theorem se_X4_toEnd : Cond.selects RX4 yX4_toEnd yX4_toEnd ∈ GW := inT3 (i := 41) rfl rfl
theorem co_X4_toEnd : Cond.code yX4_toEnd cX4_toEnd 4 (some .int) ∈ GW := inT3 (i := 42) rfl rfl
theorem ml_L_203 : Cond.methodLink RL 203 yL_open ∈ GW := inT3 (i := 44) rfl rfl
theorem st_L_open : Cond.static yL_open ∈ GW := inT3 (i := 45) rfl rfl
theorem co_L_open : Cond.codeWith yL_open cL_open 6 (some .int) [(0, 12, 15, 19), (0, 12, 19, 13)] ∈ GW := inT3 (i := 46) rfl rfl
theorem ml_L_73 : Cond.methodLink RL 73 yX4_open ∈ GW := inT3 (i := 47) rfl rfl
theorem im_X4_open : Cond.instanceMethod yX4_open ∈ GW := inT3 (i := 48) rfl rfl
theorem se_X4_open : Cond.selects RX4 yX4_open yX4_open ∈ GW := inT3 (i := 49) rfl rfl
theorem co_X4_open : Cond.code yX4_open cX4_open 6 (some .int) ∈ GW := inT3 (i := 50) rfl rfl
theorem ml_X4_141 : Cond.methodLink RX4 141 yX4_requireKind ∈ GW := inT3 (i := 51) rfl rfl
theorem im_X4_requireKind : Cond.instanceMethod yX4_requireKind ∈ GW := inT3 (i := 53) rfl rfl
theorem co_X4_requireKind : Cond.code yX4_requireKind cX4_requireKind 2 none ∈ GW := inT3 (i := 54) rfl rfl
theorem ml_X4_144 : Cond.methodLink RX4 144 yX2_openAt ∈ GW := inT3 (i := 56) rfl rfl
theorem im_X2_openAt : Cond.instanceMethod yX2_openAt ∈ GW := inT3 (i := 57) rfl rfl
theorem se_X2_openAt : Cond.selects RX2 yX2_openAt yX2_openAt ∈ GW := inT3 (i := 58) rfl rfl
theorem co_X2_openAt : Cond.code yX2_openAt cX2_openAt 3 none ∈ GW := inT3 (i := 59) rfl rfl
theorem ml_L_206 : Cond.methodLink RL 206 yL_hasNext ∈ GW := inT3 (i := 60) rfl rfl
theorem st_L_hasNext : Cond.static yL_hasNext ∈ GW := inT3 (i := 61) rfl rfl
theorem co_L_hasNext : Cond.codeWith yL_hasNext cL_hasNext 4 (some .int) [(0, 16, 19, 19), (0, 16, 22, 21)] ∈ GW := inT3 (i := 62) rfl rfl
theorem ml_L_76 : Cond.methodLink RL 76 yX4_hasNext ∈ GW := inT3 (i := 63) rfl rfl
theorem im_X4_hasNext : Cond.instanceMethod yX4_hasNext ∈ GW := inT3 (i := 64) rfl rfl
theorem se_X4_hasNext : Cond.selects RX4 yX4_hasNext yX4_hasNext ∈ GW := inT3 (i := 65) rfl rfl
theorem co_X4_hasNext : Cond.code yX4_hasNext cX4_hasNext 3 (some .boolean) ∈ GW := inT3 (i := 66) rfl rfl
theorem ml_X4_147 : Cond.methodLink RX4 147 yX4_openCursor ∈ GW := inT3 (i := 67) rfl rfl
theorem im_X4_openCursor : Cond.instanceMethod yX4_openCursor ∈ GW := inT3 (i := 69) rfl rfl
theorem co_X4_openCursor : Cond.code yX4_openCursor cX4_openCursor 3 (some (.object "Arrivalbooks$Cursor")) ∈ GW := inT3 (i := 70) rfl rfl
theorem ml_L_209 : Cond.methodLink RL 209 yL_next ∈ GW := inT3 (i := 72) rfl rfl
theorem st_L_next : Cond.static yL_next ∈ GW := inT3 (i := 73) rfl rfl
theorem co_L_next : Cond.codeWith yL_next cL_next 4 (some .int) [(0, 9, 12, 19), (0, 9, 15, 21), (0, 9, 18, 44)] ∈ GW := inT3 (i := 74) rfl rfl
theorem ml_L_79 : Cond.methodLink RL 79 yX4_next ∈ GW := inT3 (i := 75) rfl rfl
theorem im_X4_next : Cond.instanceMethod yX4_next ∈ GW := inT3 (i := 76) rfl rfl
theorem se_X4_next : Cond.selects RX4 yX4_next yX4_next ∈ GW := inT3 (i := 77) rfl rfl
theorem co_X4_next : Cond.code yX4_next cX4_next 5 (some .int) ∈ GW := inT3 (i := 78) rfl rfl
theorem ml_X4_158 : Cond.methodLink RX4 158 yX2_goOn ∈ GW := inT3 (i := 80) rfl rfl
theorem im_X2_goOn : Cond.instanceMethod yX2_goOn ∈ GW := inT3 (i := 81) rfl rfl
theorem se_X2_goOn : Cond.selects RX2 yX2_goOn yX2_goOn ∈ GW := inT3 (i := 82) rfl rfl
theorem co_X2_goOn : Cond.code yX2_goOn cX2_goOn 1 none ∈ GW := inT3 (i := 83) rfl rfl
theorem ml_L_212 : Cond.methodLink RL 212 yL_removeAt ∈ GW := inT3 (i := 84) rfl rfl
theorem st_L_removeAt : Cond.static yL_removeAt ∈ GW := inT3 (i := 85) rfl rfl
theorem co_L_removeAt : Cond.codeWith yL_removeAt cL_removeAt 4 (some .int) [(0, 9, 12, 19), (0, 9, 15, 21)] ∈ GW := inT3 (i := 86) rfl rfl
theorem ml_L_82 : Cond.methodLink RL 82 yX4_removeAt ∈ GW := inT3 (i := 87) rfl rfl
theorem im_X4_removeAt : Cond.instanceMethod yX4_removeAt ∈ GW := inT3 (i := 88) rfl rfl
theorem se_X4_removeAt : Cond.selects RX4 yX4_removeAt yX4_removeAt ∈ GW := inT3 (i := 89) rfl rfl
theorem co_X4_removeAt : Cond.code yX4_removeAt cX4_removeAt 4 (some .int) ∈ GW := inT3 (i := 90) rfl rfl
theorem ml_X4_164 : Cond.methodLink RX4 164 yX4_requireChangeablePair ∈ GW := inT3 (i := 91) rfl rfl
theorem im_X4_requireChangeablePair : Cond.instanceMethod yX4_requireChangeablePair ∈ GW := inT3 (i := 93) rfl rfl
theorem co_X4_requireChangeablePair : Cond.code yX4_requireChangeablePair cX4_requireChangeablePair 2 none ∈ GW := inT3 (i := 94) rfl rfl
theorem ml_X4_168 : Cond.methodLink RX4 168 yX2_lastPlace ∈ GW := inT3 (i := 96) rfl rfl
theorem im_X2_lastPlace : Cond.instanceMethod yX2_lastPlace ∈ GW := inT3 (i := 97) rfl rfl
theorem se_X2_lastPlace : Cond.selects RX2 yX2_lastPlace yX2_lastPlace ∈ GW := inT3 (i := 98) rfl rfl
theorem co_X2_lastPlace : Cond.code yX2_lastPlace cX2_lastPlace 1 (some .int) ∈ GW := inT3 (i := 99) rfl rfl
theorem ml_X4_172 : Cond.methodLink RX4 172 yX2_stepBack ∈ GW := inT3 (i := 100) rfl rfl
theorem im_X2_stepBack : Cond.instanceMethod yX2_stepBack ∈ GW := inT3 (i := 101) rfl rfl
theorem se_X2_stepBack : Cond.selects RX2 yX2_stepBack yX2_stepBack ∈ GW := inT3 (i := 102) rfl rfl
theorem co_X2_stepBack : Cond.code yX2_stepBack cX2_stepBack 1 none ∈ GW := inT3 (i := 103) rfl rfl
theorem ml_L_215 : Cond.methodLink RL 215 yL_setAt ∈ GW := inT3 (i := 104) rfl rfl
theorem st_L_setAt : Cond.static yL_setAt ∈ GW := inT3 (i := 105) rfl rfl
theorem co_L_setAt : Cond.codeWith yL_setAt cL_setAt 5 (some .int) [(0, 10, 13, 19), (0, 10, 17, 13), (0, 10, 21, 21)] ∈ GW := inT3 (i := 106) rfl rfl
theorem ml_L_85 : Cond.methodLink RL 85 yX4_setAt ∈ GW := inT3 (i := 107) rfl rfl
theorem im_X4_setAt : Cond.instanceMethod yX4_setAt ∈ GW := inT3 (i := 108) rfl rfl
theorem se_X4_setAt : Cond.selects RX4 yX4_setAt yX4_setAt ∈ GW := inT3 (i := 109) rfl rfl
theorem co_X4_setAt : Cond.code yX4_setAt cX4_setAt 6 (some .int) ∈ GW := inT3 (i := 110) rfl rfl
theorem ml_L_218 : Cond.methodLink RL 218 yL_bookOf ∈ GW := inT3 (i := 112) rfl rfl
theorem st_L_bookOf : Cond.static yL_bookOf ∈ GW := inT3 (i := 113) rfl rfl
theorem co_L_bookOf : Cond.codeWith yL_bookOf cL_bookOf 4 (some .int) [(0, 9, 12, 19)] ∈ GW := inT3 (i := 114) rfl rfl
theorem ml_L_88 : Cond.methodLink RL 88 yX4_bookOf ∈ GW := inT3 (i := 115) rfl rfl
theorem im_X4_bookOf : Cond.instanceMethod yX4_bookOf ∈ GW := inT3 (i := 116) rfl rfl
theorem se_X4_bookOf : Cond.selects RX4 yX4_bookOf yX4_bookOf ∈ GW := inT3 (i := 117) rfl rfl
theorem co_X4_bookOf : Cond.code yX4_bookOf cX4_bookOf 2 (some .int) ∈ GW := inT3 (i := 118) rfl rfl
theorem ml_L_221 : Cond.methodLink RL 221 yL_size ∈ GW := inT3 (i := 119) rfl rfl
theorem st_L_size : Cond.static yL_size ∈ GW := inT3 (i := 120) rfl rfl
theorem co_L_size : Cond.codeWith yL_size cL_size 4 (some .int) [(0, 9, 12, 19)] ∈ GW := inT3 (i := 121) rfl rfl
theorem ml_L_91 : Cond.methodLink RL 91 yX4_size ∈ GW := inT3 (i := 122) rfl rfl
theorem im_X4_size : Cond.instanceMethod yX4_size ∈ GW := inT3 (i := 123) rfl rfl
theorem se_X4_size : Cond.selects RX4 yX4_size yX4_size ∈ GW := inT3 (i := 124) rfl rfl
theorem co_X4_size : Cond.code yX4_size cX4_size 2 (some .int) ∈ GW := inT3 (i := 125) rfl rfl
theorem ml_L_224 : Cond.methodLink RL 224 yL_hasKey ∈ GW := inT3 (i := 126) rfl rfl
theorem st_L_hasKey : Cond.static yL_hasKey ∈ GW := inT3 (i := 127) rfl rfl
theorem co_L_hasKey : Cond.codeWith yL_hasKey cL_hasKey 5 (some .int) [(0, 17, 20, 19)] ∈ GW := inT3 (i := 128) rfl rfl
theorem ml_L_94 : Cond.methodLink RL 94 yX4_hasKey ∈ GW := inT3 (i := 129) rfl rfl
theorem im_X4_hasKey : Cond.instanceMethod yX4_hasKey ∈ GW := inT3 (i := 130) rfl rfl
theorem se_X4_hasKey : Cond.selects RX4 yX4_hasKey yX4_hasKey ∈ GW := inT3 (i := 131) rfl rfl
theorem co_X4_hasKey : Cond.code yX4_hasKey cX4_hasKey 3 (some .boolean) ∈ GW := inT3 (i := 132) rfl rfl
theorem ml_L_227 : Cond.methodLink RL 227 yL_hasValue ∈ GW := inT3 (i := 133) rfl rfl
theorem st_L_hasValue : Cond.static yL_hasValue ∈ GW := inT3 (i := 134) rfl rfl
theorem co_L_hasValue : Cond.codeWith yL_hasValue cL_hasValue 5 (some .int) [(0, 17, 20, 19)] ∈ GW := inT3 (i := 135) rfl rfl
theorem ml_L_97 : Cond.methodLink RL 97 yX4_hasValue ∈ GW := inT3 (i := 136) rfl rfl
theorem im_X4_hasValue : Cond.instanceMethod yX4_hasValue ∈ GW := inT3 (i := 137) rfl rfl
theorem se_X4_hasValue : Cond.selects RX4 yX4_hasValue yX4_hasValue ∈ GW := inT3 (i := 138) rfl rfl
theorem co_X4_hasValue : Cond.code yX4_hasValue cX4_hasValue 3 (some .boolean) ∈ GW := inT3 (i := 139) rfl rfl
theorem ml_X4_177 : Cond.methodLink RX4 177 yX1_holdsValue ∈ GW := inT3 (i := 140) rfl rfl
theorem im_X1_holdsValue : Cond.instanceMethod yX1_holdsValue ∈ GW := inT3 (i := 141) rfl rfl
theorem se_X1_holdsValue : Cond.selects RX1 yX1_holdsValue yX1_holdsValue ∈ GW := inT3 (i := 142) rfl rfl
theorem co_X1_holdsValue : Cond.code yX1_holdsValue cX1_holdsValue 3 (some .boolean) ∈ GW := inT3 (i := 143) rfl rfl
theorem ml_L_230 : Cond.methodLink RL 230 yL_get ∈ GW := inT3 (i := 144) rfl rfl
theorem st_L_get : Cond.static yL_get ∈ GW := inT3 (i := 145) rfl rfl
theorem co_L_get : Cond.codeWith yL_get cL_get 6 (some .int) [(0, 12, 15, 19)] ∈ GW := inT3 (i := 146) rfl rfl
theorem ml_L_100 : Cond.methodLink RL 100 yX4_get ∈ GW := inT3 (i := 147) rfl rfl
theorem im_X4_get : Cond.instanceMethod yX4_get ∈ GW := inT3 (i := 148) rfl rfl
theorem se_X4_get : Cond.selects RX4 yX4_get yX4_get ∈ GW := inT3 (i := 149) rfl rfl
theorem co_X4_get : Cond.code yX4_get cX4_get 6 (some .int) ∈ GW := inT3 (i := 150) rfl rfl
theorem ml_L_233 : Cond.methodLink RL 233 yL_keyAt ∈ GW := inT3 (i := 151) rfl rfl
theorem st_L_keyAt : Cond.static yL_keyAt ∈ GW := inT3 (i := 152) rfl rfl
theorem co_L_keyAt : Cond.codeWith yL_keyAt cL_keyAt 5 (some .int) [(0, 10, 13, 19)] ∈ GW := inT3 (i := 153) rfl rfl
theorem ml_L_103 : Cond.methodLink RL 103 yX4_keyAt ∈ GW := inT3 (i := 154) rfl rfl
theorem im_X4_keyAt : Cond.instanceMethod yX4_keyAt ∈ GW := inT3 (i := 155) rfl rfl
theorem se_X4_keyAt : Cond.selects RX4 yX4_keyAt yX4_keyAt ∈ GW := inT3 (i := 156) rfl rfl
theorem co_X4_keyAt : Cond.code yX4_keyAt cX4_keyAt 4 (some .int) ∈ GW := inT3 (i := 157) rfl rfl
theorem ml_X4_181 : Cond.methodLink RX4 181 yX4_requirePlace ∈ GW := inT3 (i := 158) rfl rfl
theorem im_X4_requirePlace : Cond.instanceMethod yX4_requirePlace ∈ GW := inT3 (i := 160) rfl rfl
theorem co_X4_requirePlace : Cond.code yX4_requirePlace cX4_requirePlace 3 none ∈ GW := inT3 (i := 161) rfl rfl
theorem ml_X4_255 : Cond.methodLink RX4 255 yX1_reaches ∈ GW := inT3 (i := 162) rfl rfl
theorem ml_L_236 : Cond.methodLink RL 236 yL_valueAt ∈ GW := inT3 (i := 164) rfl rfl
theorem st_L_valueAt : Cond.static yL_valueAt ∈ GW := inT3 (i := 165) rfl rfl
theorem co_L_valueAt : Cond.codeWith yL_valueAt cL_valueAt 5 (some .int) [(0, 10, 13, 19)] ∈ GW := inT3 (i := 166) rfl rfl
theorem ml_L_106 : Cond.methodLink RL 106 yX4_valueAt ∈ GW := inT3 (i := 167) rfl rfl
theorem im_X4_valueAt : Cond.instanceMethod yX4_valueAt ∈ GW := inT3 (i := 168) rfl rfl
theorem se_X4_valueAt : Cond.selects RX4 yX4_valueAt yX4_valueAt ∈ GW := inT3 (i := 169) rfl rfl
theorem co_X4_valueAt : Cond.code yX4_valueAt cX4_valueAt 4 (some .int) ∈ GW := inT3 (i := 170) rfl rfl
theorem ml_L_239 : Cond.methodLink RL 239 yL_placeOf ∈ GW := inT3 (i := 171) rfl rfl
theorem st_L_placeOf : Cond.static yL_placeOf ∈ GW := inT3 (i := 172) rfl rfl
theorem co_L_placeOf : Cond.codeWith yL_placeOf cL_placeOf 5 (some .int) [(0, 10, 13, 19)] ∈ GW := inT3 (i := 173) rfl rfl
theorem ml_L_109 : Cond.methodLink RL 109 yX4_placeOf ∈ GW := inT3 (i := 174) rfl rfl
theorem im_X4_placeOf : Cond.instanceMethod yX4_placeOf ∈ GW := inT3 (i := 175) rfl rfl
theorem se_X4_placeOf : Cond.selects RX4 yX4_placeOf yX4_placeOf ∈ GW := inT3 (i := 176) rfl rfl
theorem co_X4_placeOf : Cond.code yX4_placeOf cX4_placeOf 3 (some .int) ∈ GW := inT3 (i := 177) rfl rfl
theorem ml_L_242 : Cond.methodLink RL 242 yL_areEqual ∈ GW := inT3 (i := 178) rfl rfl
theorem st_L_areEqual : Cond.static yL_areEqual ∈ GW := inT3 (i := 179) rfl rfl
theorem co_L_areEqual : Cond.codeWith yL_areEqual cL_areEqual 5 (some .int) [(0, 17, 20, 19)] ∈ GW := inT3 (i := 180) rfl rfl
theorem ml_L_112 : Cond.methodLink RL 112 yX4_areEqual ∈ GW := inT3 (i := 181) rfl rfl
theorem im_X4_areEqual : Cond.instanceMethod yX4_areEqual ∈ GW := inT3 (i := 182) rfl rfl
theorem se_X4_areEqual : Cond.selects RX4 yX4_areEqual yX4_areEqual ∈ GW := inT3 (i := 183) rfl rfl
theorem co_X4_areEqual : Cond.code yX4_areEqual cX4_areEqual 3 (some .boolean) ∈ GW := inT3 (i := 184) rfl rfl
theorem ml_L_245 : Cond.methodLink RL 245 yL_areAlike ∈ GW := inT3 (i := 185) rfl rfl
theorem st_L_areAlike : Cond.static yL_areAlike ∈ GW := inT3 (i := 186) rfl rfl
theorem co_L_areAlike : Cond.codeWith yL_areAlike cL_areAlike 5 (some .int) [(0, 17, 20, 19)] ∈ GW := inT3 (i := 187) rfl rfl
theorem ml_L_115 : Cond.methodLink RL 115 yX4_areAlike ∈ GW := inT3 (i := 188) rfl rfl
theorem im_X4_areAlike : Cond.instanceMethod yX4_areAlike ∈ GW := inT3 (i := 189) rfl rfl
theorem se_X4_areAlike : Cond.selects RX4 yX4_areAlike yX4_areAlike ∈ GW := inT3 (i := 190) rfl rfl
theorem co_X4_areAlike : Cond.code yX4_areAlike cX4_areAlike 3 (some .boolean) ∈ GW := inT3 (i := 191) rfl rfl
theorem ml_L_248 : Cond.methodLink RL 248 yL_hash ∈ GW := inT3 (i := 192) rfl rfl
theorem st_L_hash : Cond.static yL_hash ∈ GW := inT3 (i := 193) rfl rfl
theorem co_L_hash : Cond.codeWith yL_hash cL_hash 4 (some .int) [(0, 9, 12, 19)] ∈ GW := inT3 (i := 194) rfl rfl
theorem ml_L_118 : Cond.methodLink RL 118 yX4_hash ∈ GW := inT3 (i := 195) rfl rfl
theorem im_X4_hash : Cond.instanceMethod yX4_hash ∈ GW := inT3 (i := 196) rfl rfl
theorem se_X4_hash : Cond.selects RX4 yX4_hash yX4_hash ∈ GW := inT3 (i := 197) rfl rfl
theorem co_X4_hash : Cond.code yX4_hash cX4_hash 2 (some .int) ∈ GW := inT3 (i := 198) rfl rfl
theorem ml_L_251 : Cond.methodLink RL 251 yL_sum ∈ GW := inT3 (i := 199) rfl rfl
theorem st_L_sum : Cond.static yL_sum ∈ GW := inT3 (i := 200) rfl rfl
theorem co_L_sum : Cond.codeWith yL_sum cL_sum 4 (some .int) [(0, 8, 11, 19)] ∈ GW := inT3 (i := 201) rfl rfl
theorem ml_L_121 : Cond.methodLink RL 121 yX4_sum ∈ GW := inT3 (i := 202) rfl rfl
theorem im_X4_sum : Cond.instanceMethod yX4_sum ∈ GW := inT3 (i := 203) rfl rfl
theorem se_X4_sum : Cond.selects RX4 yX4_sum yX4_sum ∈ GW := inT3 (i := 204) rfl rfl
theorem co_X4_sum : Cond.code yX4_sum cX4_sum 6 (some .long) ∈ GW := inT3 (i := 205) rfl rfl
theorem kl_X4_194 : Cond.constantLong RX4 194 (3 : Int64) ∈ GW := inT3 (i := 206) rfl rfl
theorem ml_L_254 : Cond.methodLink RL 254 yL_write ∈ GW := inT3 (i := 207) rfl rfl
theorem st_L_write : Cond.static yL_write ∈ GW := inT3 (i := 208) rfl rfl
theorem co_L_write : Cond.codeWith yL_write cL_write 4 (some .int) [(0, 9, 12, 19)] ∈ GW := inT3 (i := 209) rfl rfl
theorem ml_L_125 : Cond.methodLink RL 125 yX4_write ∈ GW := inT3 (i := 210) rfl rfl
theorem im_X4_write : Cond.instanceMethod yX4_write ∈ GW := inT3 (i := 211) rfl rfl
theorem se_X4_write : Cond.selects RX4 yX4_write yX4_write ∈ GW := inT3 (i := 212) rfl rfl
theorem co_X4_write : Cond.code yX4_write cX4_write 4 (some .int) ∈ GW := inT3 (i := 213) rfl rfl
theorem ml_X4_196 : Cond.methodLink RX4 196 yX3_startAnew ∈ GW := inT3 (i := 214) rfl rfl
theorem im_X3_startAnew : Cond.instanceMethod yX3_startAnew ∈ GW := inT3 (i := 215) rfl rfl
theorem se_X3_startAnew : Cond.selects RX3 yX3_startAnew yX3_startAnew ∈ GW := inT3 (i := 216) rfl rfl
theorem co_X3_startAnew : Cond.code yX3_startAnew cX3_startAnew 1 none ∈ GW := inT3 (i := 217) rfl rfl
theorem ml_X4_199 : Cond.methodLink RX4 199 yX3_append ∈ GW := inT3 (i := 218) rfl rfl
theorem im_X3_append : Cond.instanceMethod yX3_append ∈ GW := inT3 (i := 219) rfl rfl
theorem se_X3_append : Cond.selects RX3 yX3_append yX3_append ∈ GW := inT3 (i := 220) rfl rfl
theorem co_X3_append : Cond.code yX3_append cX3_append 2 none ∈ GW := inT3 (i := 221) rfl rfl
theorem ml_X4_203 : Cond.methodLink RX4 203 yX3_appendNumber ∈ GW := inT3 (i := 222) rfl rfl
theorem im_X3_appendNumber : Cond.instanceMethod yX3_appendNumber ∈ GW := inT3 (i := 223) rfl rfl
theorem se_X3_appendNumber : Cond.selects RX3 yX3_appendNumber yX3_appendNumber ∈ GW := inT3 (i := 224) rfl rfl
theorem co_X3_appendNumber : Cond.code yX3_appendNumber cX3_appendNumber 6 none ∈ GW := inT3 (i := 225) rfl rfl
theorem ml_X3_23 : Cond.methodLink RX3 23 yJ9_abs_067f4 ∈ GW := inT3 (i := 226) rfl rfl
theorem st_J9_abs_067f4 : Cond.static yJ9_abs_067f4 ∈ GW := inT3 (i := 227) rfl rfl
theorem co_J9_abs_067f4 : Cond.code yJ9_abs_067f4 cJ9_abs_067f4 2 (some .long) ∈ GW := inT3 (i := 228) rfl rfl
theorem ml_X3_29 : Cond.methodLink RX3 29 yX3_append ∈ GW := inT3 (i := 229) rfl rfl
theorem kl_X3_33 : Cond.constantLong RX3 33 (1000000000 : Int64) ∈ GW := inT3 (i := 230) rfl rfl
theorem kl_X3_35 : Cond.constantLong RX3 35 (48 : Int64) ∈ GW := inT3 (i := 231) rfl rfl
theorem kl_X3_37 : Cond.constantLong RX3 37 (10 : Int64) ∈ GW := inT3 (i := 232) rfl rfl
theorem ml_L_257 : Cond.methodLink RL 257 yL_outputAt ∈ GW := inT3 (i := 233) rfl rfl
theorem st_L_outputAt : Cond.static yL_outputAt ∈ GW := inT3 (i := 234) rfl rfl
theorem co_L_outputAt : Cond.codeWith yL_outputAt cL_outputAt 4 (some .int) [(0, 9, 12, 44)] ∈ GW := inT3 (i := 235) rfl rfl
theorem ml_L_128 : Cond.methodLink RL 128 yX4_outputAt ∈ GW := inT3 (i := 236) rfl rfl
theorem im_X4_outputAt : Cond.instanceMethod yX4_outputAt ∈ GW := inT3 (i := 237) rfl rfl
theorem se_X4_outputAt : Cond.selects RX4 yX4_outputAt yX4_outputAt ∈ GW := inT3 (i := 238) rfl rfl
theorem co_X4_outputAt : Cond.code yX4_outputAt cX4_outputAt 2 (some .int) ∈ GW := inT3 (i := 239) rfl rfl
theorem ml_X4_209 : Cond.methodLink RX4 209 yX3_reaches ∈ GW := inT4 (i := 0) rfl rfl
theorem im_X3_reaches : Cond.instanceMethod yX3_reaches ∈ GW := inT4 (i := 1) rfl rfl
theorem se_X3_reaches : Cond.selects RX3 yX3_reaches yX3_reaches ∈ GW := inT4 (i := 2) rfl rfl
theorem co_X3_reaches : Cond.code yX3_reaches cX3_reaches 2 (some .boolean) ∈ GW := inT4 (i := 3) rfl rfl
theorem ml_X4_214 : Cond.methodLink RX4 214 yX3_signOn ∈ GW := inT4 (i := 5) rfl rfl
theorem im_X3_signOn : Cond.instanceMethod yX3_signOn ∈ GW := inT4 (i := 6) rfl rfl
theorem se_X3_signOn : Cond.selects RX3 yX3_signOn yX3_signOn ∈ GW := inT4 (i := 7) rfl rfl
theorem co_X3_signOn : Cond.code yX3_signOn cX3_signOn 2 (some .int) ∈ GW := inT4 (i := 8) rfl rfl
theorem ml_X3_19 : Cond.methodLink RX3 19 yX3_reaches ∈ GW := inT4 (i := 9) rfl rfl
theorem ml_L_260 : Cond.methodLink RL 260 yL_isAddRefused ∈ GW := inT4 (i := 10) rfl rfl
theorem st_L_isAddRefused : Cond.static yL_isAddRefused ∈ GW := inT4 (i := 11) rfl rfl
theorem co_L_isAddRefused : Cond.codeWith yL_isAddRefused cL_isAddRefused 5 (some .int) [(0, 17, 20, 19), (0, 17, 24, 13)] ∈ GW := inT4 (i := 12) rfl rfl
theorem ml_L_131 : Cond.methodLink RL 131 yX4_isAddRefused ∈ GW := inT4 (i := 13) rfl rfl
theorem im_X4_isAddRefused : Cond.instanceMethod yX4_isAddRefused ∈ GW := inT4 (i := 14) rfl rfl
theorem se_X4_isAddRefused : Cond.selects RX4 yX4_isAddRefused yX4_isAddRefused ∈ GW := inT4 (i := 15) rfl rfl
theorem co_X4_isAddRefused : Cond.code yX4_isAddRefused cX4_isAddRefused 3 (some .boolean) ∈ GW := inT4 (i := 16) rfl rfl
theorem ml_L_263 : Cond.methodLink RL 263 yL_isNothingRefused ∈ GW := inT4 (i := 17) rfl rfl
theorem st_L_isNothingRefused : Cond.static yL_isNothingRefused ∈ GW := inT4 (i := 18) rfl rfl
theorem co_L_isNothingRefused : Cond.codeWith yL_isNothingRefused cL_isNothingRefused 5 (some .int) [(0, 17, 20, 19), (0, 17, 24, 13)] ∈ GW := inT4 (i := 19) rfl rfl
theorem ml_L_134 : Cond.methodLink RL 134 yX4_isNothingRefused ∈ GW := inT4 (i := 20) rfl rfl
theorem im_X4_isNothingRefused : Cond.instanceMethod yX4_isNothingRefused ∈ GW := inT4 (i := 21) rfl rfl
theorem se_X4_isNothingRefused : Cond.selects RX4 yX4_isNothingRefused yX4_isNothingRefused ∈ GW := inT4 (i := 22) rfl rfl
theorem co_X4_isNothingRefused : Cond.code yX4_isNothingRefused cX4_isNothingRefused 3 (some .boolean) ∈ GW := inT4 (i := 23) rfl rfl
theorem ml_L_266 : Cond.methodLink RL 266 yL_mean ∈ GW := inT4 (i := 24) rfl rfl
theorem st_L_mean : Cond.static yL_mean ∈ GW := inT4 (i := 25) rfl rfl
theorem co_L_mean : Cond.codeWith yL_mean cL_mean 4 (some .int) [(0, 8, 11, 19)] ∈ GW := inT4 (i := 26) rfl rfl
theorem ml_L_137 : Cond.methodLink RL 137 yX4_mean ∈ GW := inT4 (i := 27) rfl rfl
theorem im_X4_mean : Cond.instanceMethod yX4_mean ∈ GW := inT4 (i := 28) rfl rfl
theorem se_X4_mean : Cond.selects RX4 yX4_mean yX4_mean ∈ GW := inT4 (i := 29) rfl rfl
theorem co_X4_mean : Cond.code yX4_mean cX4_mean 6 (some .double) ∈ GW := inT4 (i := 30) rfl rfl
theorem cl_L_142 : Cond.classLink RL 142 RX5 ∈ GW := inT4 (i := 31) rfl rfl
theorem io_X5 : Cond.instantiable RX5 11 ∈ GW := inT4 (i := 32) rfl rfl
theorem ml_L_144 : Cond.methodLink RL 144 yX5_init ∈ GW := inT4 (i := 33) rfl rfl
theorem im_X5_init : Cond.instanceMethod yX5_init ∈ GW := inT4 (i := 34) rfl rfl
theorem co_X5_init : Cond.code yX5_init cX5_init 1 none ∈ GW := inT4 (i := 35) rfl rfl
theorem ml_X5_1 : Cond.methodLink RX5 1 objectInit ∈ GW := inT4 (i := 36) rfl rfl
theorem fl_X5_7 : Cond.fieldLink RX5 7 "ArrivalbooksModel" "keys" "[I" ∈ GW := inT4 (i := 37) rfl rfl
theorem fl_X5_13 : Cond.fieldLink RX5 13 "ArrivalbooksModel" "values" "[I" ∈ GW := inT4 (i := 38) rfl rfl
theorem fl_X5_16 : Cond.fieldLink RX5 16 "ArrivalbooksModel" "size" "[I" ∈ GW := inT4 (i := 39) rfl rfl
theorem fl_X5_19 : Cond.fieldLink RX5 19 "ArrivalbooksModel" "bound" "I" ∈ GW := inT4 (i := 40) rfl rfl
theorem fl_X5_39 : Cond.fieldLink RX5 39 "ArrivalbooksModel" "thrown" "I" ∈ GW := inT4 (i := 41) rfl rfl
theorem fl_X5_23 : Cond.fieldLink RX5 23 "ArrivalbooksModel" "cursorBook" "[I" ∈ GW := inT4 (i := 42) rfl rfl
theorem fl_X5_26 : Cond.fieldLink RX5 26 "ArrivalbooksModel" "cursorKind" "[I" ∈ GW := inT4 (i := 43) rfl rfl
theorem fl_X5_29 : Cond.fieldLink RX5 29 "ArrivalbooksModel" "cursorAt" "[I" ∈ GW := inT4 (i := 44) rfl rfl
theorem fl_X5_32 : Cond.fieldLink RX5 32 "ArrivalbooksModel" "isThere" "[Z" ∈ GW := inT4 (i := 45) rfl rfl
theorem fl_X5_36 : Cond.fieldLink RX5 36 "ArrivalbooksModel" "output" "[I" ∈ GW := inT4 (i := 46) rfl rfl
theorem fl_X5_109 : Cond.fieldLink RX5 109 "ArrivalbooksModel" "written" "I" ∈ GW := inT4 (i := 47) rfl rfl
theorem ac_boolean : Cond.arrayClass .boolean ∈ GW := inT4 (i := 71) rfl rfl
theorem ml_L_151 : Cond.methodLink RL 151 yX5_thrown ∈ GW := inT4 (i := 72) rfl rfl
theorem im_X5_thrown : Cond.instanceMethod yX5_thrown ∈ GW := inT4 (i := 73) rfl rfl
theorem se_X5_thrown : Cond.selects RX5 yX5_thrown yX5_thrown ∈ GW := inT4 (i := 74) rfl rfl
theorem co_X5_thrown : Cond.code yX5_thrown cX5_thrown 1 (some .int) ∈ GW := inT4 (i := 75) rfl rfl
theorem ml_L_150 : Cond.methodLink RL 150 yX5_rebind ∈ GW := inT4 (i := 76) rfl rfl
theorem im_X5_rebind : Cond.instanceMethod yX5_rebind ∈ GW := inT4 (i := 77) rfl rfl
theorem se_X5_rebind : Cond.selects RX5 yX5_rebind yX5_rebind ∈ GW := inT4 (i := 78) rfl rfl
theorem co_X5_rebind : Cond.code yX5_rebind cX5_rebind 3 (some .int) ∈ GW := inT4 (i := 79) rfl rfl
theorem ml_X5_42 : Cond.methodLink RX5 42 yX5_in ∈ GW := inT4 (i := 80) rfl rfl
theorem st_X5_in : Cond.static yX5_in ∈ GW := inT4 (i := 81) rfl rfl
theorem co_X5_in : Cond.code yX5_in cX5_in 3 (some .boolean) ∈ GW := inT4 (i := 82) rfl rfl
theorem ml_X5_58 : Cond.methodLink RX5 58 yX5_refuse ∈ GW := inT4 (i := 83) rfl rfl
theorem im_X5_refuse : Cond.instanceMethod yX5_refuse ∈ GW := inT4 (i := 85) rfl rfl
theorem co_X5_refuse : Cond.code yX5_refuse cX5_refuse 2 (some .int) ∈ GW := inT4 (i := 86) rfl rfl
theorem ml_X5_62 : Cond.methodLink RX5 62 yX5_closes ∈ GW := inT4 (i := 87) rfl rfl
theorem im_X5_closes : Cond.instanceMethod yX5_closes ∈ GW := inT4 (i := 89) rfl rfl
theorem co_X5_closes : Cond.code yX5_closes cX5_closes 4 none ∈ GW := inT4 (i := 90) rfl rfl
theorem ml_X5_65 : Cond.methodLink RX5 65 yX5_told ∈ GW := inT4 (i := 91) rfl rfl
theorem im_X5_told : Cond.instanceMethod yX5_told ∈ GW := inT4 (i := 93) rfl rfl
theorem co_X5_told : Cond.code yX5_told cX5_told 2 (some .int) ∈ GW := inT4 (i := 94) rfl rfl
theorem ml_L_157 : Cond.methodLink RL 157 yX5_put ∈ GW := inT4 (i := 95) rfl rfl
theorem im_X5_put : Cond.instanceMethod yX5_put ∈ GW := inT4 (i := 96) rfl rfl
theorem se_X5_put : Cond.selects RX5 yX5_put yX5_put ∈ GW := inT4 (i := 97) rfl rfl
theorem co_X5_put : Cond.code yX5_put cX5_put 5 (some .boolean) ∈ GW := inT4 (i := 98) rfl rfl
theorem ml_X5_68 : Cond.methodLink RX5 68 yX5_isBook ∈ GW := inT4 (i := 99) rfl rfl
theorem st_X5_isBook : Cond.static yX5_isBook ∈ GW := inT4 (i := 100) rfl rfl
theorem co_X5_isBook : Cond.code yX5_isBook cX5_isBook 1 (some .boolean) ∈ GW := inT4 (i := 101) rfl rfl
theorem ml_X5_72 : Cond.methodLink RX5 72 yX5_denies ∈ GW := inT4 (i := 102) rfl rfl
theorem im_X5_denies : Cond.instanceMethod yX5_denies ∈ GW := inT4 (i := 104) rfl rfl
theorem co_X5_denies : Cond.code yX5_denies cX5_denies 2 (some .boolean) ∈ GW := inT4 (i := 105) rfl rfl
theorem ml_X5_75 : Cond.methodLink RX5 75 yX5_isFull ∈ GW := inT4 (i := 106) rfl rfl
theorem im_X5_isFull : Cond.instanceMethod yX5_isFull ∈ GW := inT4 (i := 108) rfl rfl
theorem co_X5_isFull : Cond.code yX5_isFull cX5_isFull 3 (some .boolean) ∈ GW := inT4 (i := 109) rfl rfl
theorem ml_X5_50 : Cond.methodLink RX5 50 yX5_place ∈ GW := inT4 (i := 110) rfl rfl
theorem im_X5_place : Cond.instanceMethod yX5_place ∈ GW := inT4 (i := 112) rfl rfl
theorem co_X5_place : Cond.code yX5_place cX5_place 4 (some .int) ∈ GW := inT4 (i := 113) rfl rfl
theorem ml_X5_79 : Cond.methodLink RX5 79 yX5_puts ∈ GW := inT4 (i := 114) rfl rfl
theorem im_X5_puts : Cond.instanceMethod yX5_puts ∈ GW := inT4 (i := 116) rfl rfl
theorem co_X5_puts : Cond.code yX5_puts cX5_puts 5 none ∈ GW := inT4 (i := 117) rfl rfl
theorem ml_X5_54 : Cond.methodLink RX5 54 yX5_comes ∈ GW := inT4 (i := 118) rfl rfl
theorem im_X5_comes : Cond.instanceMethod yX5_comes ∈ GW := inT4 (i := 120) rfl rfl
theorem co_X5_comes : Cond.code yX5_comes cX5_comes 4 none ∈ GW := inT4 (i := 121) rfl rfl
theorem ml_X5_46 : Cond.methodLink RX5 46 yX5_takes ∈ GW := inT4 (i := 122) rfl rfl
theorem im_X5_takes : Cond.instanceMethod yX5_takes ∈ GW := inT4 (i := 124) rfl rfl
theorem co_X5_takes : Cond.code yX5_takes cX5_takes 4 none ∈ GW := inT4 (i := 125) rfl rfl
theorem ml_X5_82 : Cond.methodLink RX5 82 yX5_says ∈ GW := inT4 (i := 126) rfl rfl
theorem im_X5_says : Cond.instanceMethod yX5_says ∈ GW := inT4 (i := 128) rfl rfl
theorem co_X5_says : Cond.code yX5_says cX5_says 2 (some .boolean) ∈ GW := inT4 (i := 129) rfl rfl
theorem ml_L_160 : Cond.methodLink RL 160 yX5_putNew ∈ GW := inT4 (i := 130) rfl rfl
theorem im_X5_putNew : Cond.instanceMethod yX5_putNew ∈ GW := inT4 (i := 131) rfl rfl
theorem se_X5_putNew : Cond.selects RX5 yX5_putNew yX5_putNew ∈ GW := inT4 (i := 132) rfl rfl
theorem co_X5_putNew : Cond.code yX5_putNew cX5_putNew 5 (some .int) ∈ GW := inT4 (i := 133) rfl rfl
theorem ml_X5_89 : Cond.methodLink RX5 89 yX5_lacks ∈ GW := inT4 (i := 134) rfl rfl
theorem im_X5_lacks : Cond.instanceMethod yX5_lacks ∈ GW := inT4 (i := 136) rfl rfl
theorem co_X5_lacks : Cond.code yX5_lacks cX5_lacks 3 (some .int) ∈ GW := inT4 (i := 137) rfl rfl
theorem ml_X5_86 : Cond.methodLink RX5 86 yX5_isPlain ∈ GW := inT4 (i := 138) rfl rfl
theorem st_X5_isPlain : Cond.static yX5_isPlain ∈ GW := inT4 (i := 139) rfl rfl
theorem co_X5_isPlain : Cond.code yX5_isPlain cX5_isPlain 1 (some .boolean) ∈ GW := inT4 (i := 140) rfl rfl
theorem ml_L_163 : Cond.methodLink RL 163 yX5_add ∈ GW := inT4 (i := 141) rfl rfl
theorem im_X5_add : Cond.instanceMethod yX5_add ∈ GW := inT4 (i := 142) rfl rfl
theorem se_X5_add : Cond.selects RX5 yX5_add yX5_add ∈ GW := inT4 (i := 143) rfl rfl
theorem co_X5_add : Cond.code yX5_add cX5_add 6 (some .int) ∈ GW := inT4 (i := 144) rfl rfl
theorem ml_L_167 : Cond.methodLink RL 167 yX5_halve ∈ GW := inT4 (i := 145) rfl rfl
theorem im_X5_halve : Cond.instanceMethod yX5_halve ∈ GW := inT4 (i := 146) rfl rfl
theorem se_X5_halve : Cond.selects RX5 yX5_halve yX5_halve ∈ GW := inT4 (i := 147) rfl rfl
theorem co_X5_halve : Cond.code yX5_halve cX5_halve 5 (some .boolean) ∈ GW := inT4 (i := 148) rfl rfl
theorem ml_L_170 : Cond.methodLink RL 170 yX5_addToAll ∈ GW := inT4 (i := 149) rfl rfl
theorem im_X5_addToAll : Cond.instanceMethod yX5_addToAll ∈ GW := inT4 (i := 150) rfl rfl
theorem se_X5_addToAll : Cond.selects RX5 yX5_addToAll yX5_addToAll ∈ GW := inT4 (i := 151) rfl rfl
theorem co_X5_addToAll : Cond.code yX5_addToAll cX5_addToAll 4 (some .int) ∈ GW := inT4 (i := 152) rfl rfl
theorem ml_L_173 : Cond.methodLink RL 173 yX5_replace ∈ GW := inT4 (i := 153) rfl rfl
theorem im_X5_replace : Cond.instanceMethod yX5_replace ∈ GW := inT4 (i := 154) rfl rfl
theorem se_X5_replace : Cond.selects RX5 yX5_replace yX5_replace ∈ GW := inT4 (i := 155) rfl rfl
theorem co_X5_replace : Cond.code yX5_replace cX5_replace 5 (some .boolean) ∈ GW := inT4 (i := 156) rfl rfl
theorem ml_L_176 : Cond.methodLink RL 176 yX5_remove ∈ GW := inT4 (i := 157) rfl rfl
theorem im_X5_remove : Cond.instanceMethod yX5_remove ∈ GW := inT4 (i := 158) rfl rfl
theorem se_X5_remove : Cond.selects RX5 yX5_remove yX5_remove ∈ GW := inT4 (i := 159) rfl rfl
theorem co_X5_remove : Cond.code yX5_remove cX5_remove 5 (some .int) ∈ GW := inT4 (i := 160) rfl rfl
theorem ml_L_179 : Cond.methodLink RL 179 yX5_removePair ∈ GW := inT4 (i := 161) rfl rfl
theorem im_X5_removePair : Cond.instanceMethod yX5_removePair ∈ GW := inT4 (i := 162) rfl rfl
theorem se_X5_removePair : Cond.selects RX5 yX5_removePair yX5_removePair ∈ GW := inT4 (i := 163) rfl rfl
theorem co_X5_removePair : Cond.code yX5_removePair cX5_removePair 5 (some .boolean) ∈ GW := inT4 (i := 164) rfl rfl
theorem ml_L_183 : Cond.methodLink RL 183 yX5_fill ∈ GW := inT4 (i := 165) rfl rfl
theorem im_X5_fill : Cond.instanceMethod yX5_fill ∈ GW := inT4 (i := 166) rfl rfl
theorem se_X5_fill : Cond.selects RX5 yX5_fill yX5_fill ∈ GW := inT4 (i := 167) rfl rfl
theorem co_X5_fill : Cond.code yX5_fill cX5_fill 7 (some .int) ∈ GW := inT4 (i := 168) rfl rfl
theorem ml_L_186 : Cond.methodLink RL 186 yX5_pour ∈ GW := inT4 (i := 169) rfl rfl
theorem im_X5_pour : Cond.instanceMethod yX5_pour ∈ GW := inT4 (i := 170) rfl rfl
theorem se_X5_pour : Cond.selects RX5 yX5_pour yX5_pour ∈ GW := inT4 (i := 171) rfl rfl
theorem co_X5_pour : Cond.code yX5_pour cX5_pour 5 (some .int) ∈ GW := inT4 (i := 172) rfl rfl
theorem ml_L_189 : Cond.methodLink RL 189 yX5_copy ∈ GW := inT4 (i := 173) rfl rfl
theorem im_X5_copy : Cond.instanceMethod yX5_copy ∈ GW := inT4 (i := 174) rfl rfl
theorem se_X5_copy : Cond.selects RX5 yX5_copy yX5_copy ∈ GW := inT4 (i := 175) rfl rfl
theorem co_X5_copy : Cond.code yX5_copy cX5_copy 4 (some .int) ∈ GW := inT4 (i := 176) rfl rfl
theorem ml_L_192 : Cond.methodLink RL 192 yX5_clear ∈ GW := inT4 (i := 177) rfl rfl
theorem im_X5_clear : Cond.instanceMethod yX5_clear ∈ GW := inT4 (i := 178) rfl rfl
theorem se_X5_clear : Cond.selects RX5 yX5_clear yX5_clear ∈ GW := inT4 (i := 179) rfl rfl
theorem co_X5_clear : Cond.code yX5_clear cX5_clear 3 (some .int) ∈ GW := inT4 (i := 180) rfl rfl
theorem ml_L_195 : Cond.methodLink RL 195 yX5_offer ∈ GW := inT4 (i := 181) rfl rfl
theorem im_X5_offer : Cond.instanceMethod yX5_offer ∈ GW := inT4 (i := 182) rfl rfl
theorem se_X5_offer : Cond.selects RX5 yX5_offer yX5_offer ∈ GW := inT4 (i := 183) rfl rfl
theorem co_X5_offer : Cond.code yX5_offer cX5_offer 3 (some .boolean) ∈ GW := inT4 (i := 184) rfl rfl
theorem ml_L_199 : Cond.methodLink RL 199 yX5_poll ∈ GW := inT4 (i := 185) rfl rfl
theorem im_X5_poll : Cond.instanceMethod yX5_poll ∈ GW := inT4 (i := 186) rfl rfl
theorem se_X5_poll : Cond.selects RX5 yX5_poll yX5_poll ∈ GW := inT4 (i := 187) rfl rfl
theorem co_X5_poll : Cond.code yX5_poll cX5_poll 2 (some .int) ∈ GW := inT4 (i := 188) rfl rfl
theorem ml_L_202 : Cond.methodLink RL 202 yX5_toEnd ∈ GW := inT4 (i := 189) rfl rfl
theorem im_X5_toEnd : Cond.instanceMethod yX5_toEnd ∈ GW := inT4 (i := 190) rfl rfl
theorem se_X5_toEnd : Cond.selects RX5 yX5_toEnd yX5_toEnd ∈ GW := inT4 (i := 191) rfl rfl
theorem co_X5_toEnd : Cond.code yX5_toEnd cX5_toEnd 4 (some .int) ∈ GW := inT4 (i := 192) rfl rfl
theorem ml_L_205 : Cond.methodLink RL 205 yX5_open ∈ GW := inT4 (i := 193) rfl rfl
theorem im_X5_open : Cond.instanceMethod yX5_open ∈ GW := inT4 (i := 194) rfl rfl
theorem se_X5_open : Cond.selects RX5 yX5_open yX5_open ∈ GW := inT4 (i := 195) rfl rfl
theorem co_X5_open : Cond.code yX5_open cX5_open 4 (some .int) ∈ GW := inT4 (i := 196) rfl rfl
theorem ml_X5_92 : Cond.methodLink RX5 92 yX5_isCursor ∈ GW := inT4 (i := 197) rfl rfl
theorem st_X5_isCursor : Cond.static yX5_isCursor ∈ GW := inT4 (i := 198) rfl rfl
theorem co_X5_isCursor : Cond.code yX5_isCursor cX5_isCursor 1 (some .boolean) ∈ GW := inT4 (i := 199) rfl rfl
theorem ml_L_208 : Cond.methodLink RL 208 yX5_hasNext ∈ GW := inT4 (i := 200) rfl rfl
theorem im_X5_hasNext : Cond.instanceMethod yX5_hasNext ∈ GW := inT4 (i := 201) rfl rfl
theorem se_X5_hasNext : Cond.selects RX5 yX5_hasNext yX5_hasNext ∈ GW := inT4 (i := 202) rfl rfl
theorem co_X5_hasNext : Cond.code yX5_hasNext cX5_hasNext 2 (some .boolean) ∈ GW := inT4 (i := 203) rfl rfl
theorem ml_X5_95 : Cond.methodLink RX5 95 yX5_isOpen ∈ GW := inT4 (i := 204) rfl rfl
theorem im_X5_isOpen : Cond.instanceMethod yX5_isOpen ∈ GW := inT4 (i := 206) rfl rfl
theorem co_X5_isOpen : Cond.code yX5_isOpen cX5_isOpen 2 (some .boolean) ∈ GW := inT4 (i := 207) rfl rfl
theorem ml_L_211 : Cond.methodLink RL 211 yX5_next ∈ GW := inT4 (i := 208) rfl rfl
theorem im_X5_next : Cond.instanceMethod yX5_next ∈ GW := inT4 (i := 209) rfl rfl
theorem se_X5_next : Cond.selects RX5 yX5_next yX5_next ∈ GW := inT4 (i := 210) rfl rfl
theorem co_X5_next : Cond.code yX5_next cX5_next 4 (some .int) ∈ GW := inT4 (i := 211) rfl rfl
theorem ml_L_214 : Cond.methodLink RL 214 yX5_removeAt ∈ GW := inT4 (i := 212) rfl rfl
theorem im_X5_removeAt : Cond.instanceMethod yX5_removeAt ∈ GW := inT4 (i := 213) rfl rfl
theorem se_X5_removeAt : Cond.selects RX5 yX5_removeAt yX5_removeAt ∈ GW := inT4 (i := 214) rfl rfl
theorem co_X5_removeAt : Cond.code yX5_removeAt cX5_removeAt 3 (some .int) ∈ GW := inT4 (i := 215) rfl rfl
theorem ml_X5_98 : Cond.methodLink RX5 98 yX5_canChange ∈ GW := inT4 (i := 216) rfl rfl
theorem im_X5_canChange : Cond.instanceMethod yX5_canChange ∈ GW := inT4 (i := 218) rfl rfl
theorem co_X5_canChange : Cond.code yX5_canChange cX5_canChange 2 (some .boolean) ∈ GW := inT4 (i := 219) rfl rfl
theorem ml_L_217 : Cond.methodLink RL 217 yX5_setAt ∈ GW := inT4 (i := 220) rfl rfl
theorem im_X5_setAt : Cond.instanceMethod yX5_setAt ∈ GW := inT4 (i := 221) rfl rfl
theorem se_X5_setAt : Cond.selects RX5 yX5_setAt yX5_setAt ∈ GW := inT4 (i := 222) rfl rfl
theorem co_X5_setAt : Cond.code yX5_setAt cX5_setAt 6 (some .int) ∈ GW := inT4 (i := 223) rfl rfl
theorem ml_L_220 : Cond.methodLink RL 220 yX5_bookOf ∈ GW := inT4 (i := 224) rfl rfl
theorem im_X5_bookOf : Cond.instanceMethod yX5_bookOf ∈ GW := inT4 (i := 225) rfl rfl
theorem se_X5_bookOf : Cond.selects RX5 yX5_bookOf yX5_bookOf ∈ GW := inT4 (i := 226) rfl rfl
theorem co_X5_bookOf : Cond.code yX5_bookOf cX5_bookOf 2 (some .int) ∈ GW := inT4 (i := 227) rfl rfl
theorem ml_L_223 : Cond.methodLink RL 223 yX5_size ∈ GW := inT4 (i := 228) rfl rfl
theorem im_X5_size : Cond.instanceMethod yX5_size ∈ GW := inT4 (i := 229) rfl rfl
theorem se_X5_size : Cond.selects RX5 yX5_size yX5_size ∈ GW := inT4 (i := 230) rfl rfl
theorem co_X5_size : Cond.code yX5_size cX5_size 2 (some .int) ∈ GW := inT4 (i := 231) rfl rfl
theorem ml_L_226 : Cond.methodLink RL 226 yX5_hasKey ∈ GW := inT4 (i := 232) rfl rfl
theorem im_X5_hasKey : Cond.instanceMethod yX5_hasKey ∈ GW := inT4 (i := 233) rfl rfl
theorem se_X5_hasKey : Cond.selects RX5 yX5_hasKey yX5_hasKey ∈ GW := inT4 (i := 234) rfl rfl
theorem co_X5_hasKey : Cond.code yX5_hasKey cX5_hasKey 3 (some .boolean) ∈ GW := inT4 (i := 235) rfl rfl
theorem ml_L_229 : Cond.methodLink RL 229 yX5_hasValue ∈ GW := inT4 (i := 236) rfl rfl
theorem im_X5_hasValue : Cond.instanceMethod yX5_hasValue ∈ GW := inT4 (i := 237) rfl rfl
theorem se_X5_hasValue : Cond.selects RX5 yX5_hasValue yX5_hasValue ∈ GW := inT4 (i := 238) rfl rfl
theorem co_X5_hasValue : Cond.code yX5_hasValue cX5_hasValue 5 (some .boolean) ∈ GW := inT4 (i := 239) rfl rfl
theorem ml_L_232 : Cond.methodLink RL 232 yX5_get ∈ GW := inT5 (i := 0) rfl rfl
theorem im_X5_get : Cond.instanceMethod yX5_get ∈ GW := inT5 (i := 1) rfl rfl
theorem se_X5_get : Cond.selects RX5 yX5_get yX5_get ∈ GW := inT5 (i := 2) rfl rfl
theorem co_X5_get : Cond.code yX5_get cX5_get 5 (some .int) ∈ GW := inT5 (i := 3) rfl rfl
theorem ml_L_235 : Cond.methodLink RL 235 yX5_keyAt ∈ GW := inT5 (i := 4) rfl rfl
theorem im_X5_keyAt : Cond.instanceMethod yX5_keyAt ∈ GW := inT5 (i := 5) rfl rfl
theorem se_X5_keyAt : Cond.selects RX5 yX5_keyAt yX5_keyAt ∈ GW := inT5 (i := 6) rfl rfl
theorem co_X5_keyAt : Cond.code yX5_keyAt cX5_keyAt 3 (some .int) ∈ GW := inT5 (i := 7) rfl rfl
theorem ml_X5_101 : Cond.methodLink RX5 101 yX5_isPlace ∈ GW := inT5 (i := 8) rfl rfl
theorem im_X5_isPlace : Cond.instanceMethod yX5_isPlace ∈ GW := inT5 (i := 10) rfl rfl
theorem co_X5_isPlace : Cond.code yX5_isPlace cX5_isPlace 3 (some .boolean) ∈ GW := inT5 (i := 11) rfl rfl
theorem ml_L_238 : Cond.methodLink RL 238 yX5_valueAt ∈ GW := inT5 (i := 12) rfl rfl
theorem im_X5_valueAt : Cond.instanceMethod yX5_valueAt ∈ GW := inT5 (i := 13) rfl rfl
theorem se_X5_valueAt : Cond.selects RX5 yX5_valueAt yX5_valueAt ∈ GW := inT5 (i := 14) rfl rfl
theorem co_X5_valueAt : Cond.code yX5_valueAt cX5_valueAt 3 (some .int) ∈ GW := inT5 (i := 15) rfl rfl
theorem ml_L_241 : Cond.methodLink RL 241 yX5_placeOf ∈ GW := inT5 (i := 16) rfl rfl
theorem im_X5_placeOf : Cond.instanceMethod yX5_placeOf ∈ GW := inT5 (i := 17) rfl rfl
theorem se_X5_placeOf : Cond.selects RX5 yX5_placeOf yX5_placeOf ∈ GW := inT5 (i := 18) rfl rfl
theorem co_X5_placeOf : Cond.code yX5_placeOf cX5_placeOf 3 (some .int) ∈ GW := inT5 (i := 19) rfl rfl
theorem ml_L_244 : Cond.methodLink RL 244 yX5_areEqual ∈ GW := inT5 (i := 20) rfl rfl
theorem im_X5_areEqual : Cond.instanceMethod yX5_areEqual ∈ GW := inT5 (i := 21) rfl rfl
theorem se_X5_areEqual : Cond.selects RX5 yX5_areEqual yX5_areEqual ∈ GW := inT5 (i := 22) rfl rfl
theorem co_X5_areEqual : Cond.code yX5_areEqual cX5_areEqual 5 (some .boolean) ∈ GW := inT5 (i := 23) rfl rfl
theorem ml_X5_104 : Cond.methodLink RX5 104 yX5_hasPair ∈ GW := inT5 (i := 24) rfl rfl
theorem im_X5_hasPair : Cond.instanceMethod yX5_hasPair ∈ GW := inT5 (i := 26) rfl rfl
theorem co_X5_hasPair : Cond.code yX5_hasPair cX5_hasPair 5 (some .boolean) ∈ GW := inT5 (i := 27) rfl rfl
theorem ml_L_247 : Cond.methodLink RL 247 yX5_areAlike ∈ GW := inT5 (i := 28) rfl rfl
theorem im_X5_areAlike : Cond.instanceMethod yX5_areAlike ∈ GW := inT5 (i := 29) rfl rfl
theorem se_X5_areAlike : Cond.selects RX5 yX5_areAlike yX5_areAlike ∈ GW := inT5 (i := 30) rfl rfl
theorem co_X5_areAlike : Cond.code yX5_areAlike cX5_areAlike 5 (some .boolean) ∈ GW := inT5 (i := 31) rfl rfl
theorem ml_L_250 : Cond.methodLink RL 250 yX5_hash ∈ GW := inT5 (i := 32) rfl rfl
theorem im_X5_hash : Cond.instanceMethod yX5_hash ∈ GW := inT5 (i := 33) rfl rfl
theorem se_X5_hash : Cond.selects RX5 yX5_hash yX5_hash ∈ GW := inT5 (i := 34) rfl rfl
theorem co_X5_hash : Cond.code yX5_hash cX5_hash 4 (some .int) ∈ GW := inT5 (i := 35) rfl rfl
theorem ml_L_253 : Cond.methodLink RL 253 yX5_sum ∈ GW := inT5 (i := 36) rfl rfl
theorem im_X5_sum : Cond.instanceMethod yX5_sum ∈ GW := inT5 (i := 37) rfl rfl
theorem se_X5_sum : Cond.selects RX5 yX5_sum yX5_sum ∈ GW := inT5 (i := 38) rfl rfl
theorem co_X5_sum : Cond.code yX5_sum cX5_sum 5 (some .long) ∈ GW := inT5 (i := 39) rfl rfl
theorem kl_X5_107 : Cond.constantLong RX5 107 (3 : Int64) ∈ GW := inT5 (i := 40) rfl rfl
theorem ml_L_256 : Cond.methodLink RL 256 yX5_write ∈ GW := inT5 (i := 41) rfl rfl
theorem im_X5_write : Cond.instanceMethod yX5_write ∈ GW := inT5 (i := 42) rfl rfl
theorem se_X5_write : Cond.selects RX5 yX5_write yX5_write ∈ GW := inT5 (i := 43) rfl rfl
theorem co_X5_write : Cond.code yX5_write cX5_write 3 (some .int) ∈ GW := inT5 (i := 44) rfl rfl
theorem ml_X5_112 : Cond.methodLink RX5 112 yX5_writes ∈ GW := inT5 (i := 45) rfl rfl
theorem im_X5_writes : Cond.instanceMethod yX5_writes ∈ GW := inT5 (i := 47) rfl rfl
theorem co_X5_writes : Cond.code yX5_writes cX5_writes 2 none ∈ GW := inT5 (i := 48) rfl rfl
theorem ml_X5_120 : Cond.methodLink RX5 120 yX5_writesNumber ∈ GW := inT5 (i := 49) rfl rfl
theorem im_X5_writesNumber : Cond.instanceMethod yX5_writesNumber ∈ GW := inT5 (i := 51) rfl rfl
theorem co_X5_writesNumber : Cond.code yX5_writesNumber cX5_writesNumber 6 none ∈ GW := inT5 (i := 52) rfl rfl
theorem kl_X5_116 : Cond.constantLong RX5 116 (10 : Int64) ∈ GW := inT5 (i := 53) rfl rfl
theorem kl_X5_118 : Cond.constantLong RX5 118 (48 : Int64) ∈ GW := inT5 (i := 54) rfl rfl
theorem ml_L_259 : Cond.methodLink RL 259 yX5_outputAt ∈ GW := inT5 (i := 55) rfl rfl
theorem im_X5_outputAt : Cond.instanceMethod yX5_outputAt ∈ GW := inT5 (i := 56) rfl rfl
theorem se_X5_outputAt : Cond.selects RX5 yX5_outputAt yX5_outputAt ∈ GW := inT5 (i := 57) rfl rfl
theorem co_X5_outputAt : Cond.code yX5_outputAt cX5_outputAt 2 (some .int) ∈ GW := inT5 (i := 58) rfl rfl
theorem ml_L_262 : Cond.methodLink RL 262 yX5_isAddRefused ∈ GW := inT5 (i := 59) rfl rfl
theorem im_X5_isAddRefused : Cond.instanceMethod yX5_isAddRefused ∈ GW := inT5 (i := 60) rfl rfl
theorem se_X5_isAddRefused : Cond.selects RX5 yX5_isAddRefused yX5_isAddRefused ∈ GW := inT5 (i := 61) rfl rfl
theorem co_X5_isAddRefused : Cond.code yX5_isAddRefused cX5_isAddRefused 3 (some .boolean) ∈ GW := inT5 (i := 62) rfl rfl
theorem ml_L_265 : Cond.methodLink RL 265 yX5_isNothingRefused ∈ GW := inT5 (i := 63) rfl rfl
theorem im_X5_isNothingRefused : Cond.instanceMethod yX5_isNothingRefused ∈ GW := inT5 (i := 64) rfl rfl
theorem se_X5_isNothingRefused : Cond.selects RX5 yX5_isNothingRefused yX5_isNothingRefused ∈ GW := inT5 (i := 65) rfl rfl
theorem co_X5_isNothingRefused : Cond.code yX5_isNothingRefused cX5_isNothingRefused 3 (some .boolean) ∈ GW := inT5 (i := 66) rfl rfl
theorem ml_L_269 : Cond.methodLink RL 269 yX5_mean ∈ GW := inT5 (i := 67) rfl rfl
theorem im_X5_mean : Cond.instanceMethod yX5_mean ∈ GW := inT5 (i := 68) rfl rfl
theorem se_X5_mean : Cond.selects RX5 yX5_mean yX5_mean ∈ GW := inT5 (i := 69) rfl rfl
theorem co_X5_mean : Cond.code yX5_mean cX5_mean 5 (some .double) ∈ GW := inT5 (i := 70) rfl rfl
theorem ml_L_274 : Cond.methodLink RL 274 yX5_fullness ∈ GW := inT5 (i := 71) rfl rfl
theorem im_X5_fullness : Cond.instanceMethod yX5_fullness ∈ GW := inT5 (i := 72) rfl rfl
theorem se_X5_fullness : Cond.selects RX5 yX5_fullness yX5_fullness ∈ GW := inT5 (i := 73) rfl rfl
theorem co_X5_fullness : Cond.code yX5_fullness cX5_fullness 1 (some .float) ∈ GW := inT5 (i := 74) rfl rfl
theorem ml_L_278 : Cond.methodLink RL 278 yX5_errors ∈ GW := inT5 (i := 75) rfl rfl
theorem im_X5_errors : Cond.instanceMethod yX5_errors ∈ GW := inT5 (i := 76) rfl rfl
theorem se_X5_errors : Cond.selects RX5 yX5_errors yX5_errors ∈ GW := inT5 (i := 77) rfl rfl
theorem co_X5_errors : Cond.code yX5_errors cX5_errors 3 (some .int) ∈ GW := inT5 (i := 78) rfl rfl
theorem ml_X5_123 : Cond.methodLink RX5 123 yX5_isTrue ∈ GW := inT5 (i := 79) rfl rfl
theorem im_X5_isTrue : Cond.instanceMethod yX5_isTrue ∈ GW := inT5 (i := 81) rfl rfl
theorem co_X5_isTrue : Cond.code yX5_isTrue cX5_isTrue 6 (some .boolean) ∈ GW := inT5 (i := 82) rfl rfl
theorem ac_long : Cond.arrayClass .long ∈ GW := inT5 (i := 83) rfl rfl
theorem ac_double : Cond.arrayClass .double ∈ GW := inT5 (i := 84) rfl rfl
theorem se_X4_bookOfNumber : Cond.selects RX4 yX4_bookOfNumber yX4_bookOfNumber ∈ GW := inS (i := 0) rfl rfl
theorem se_X4_isAsTheTheoremTells : Cond.selects RX4 yX4_isAsTheTheoremTells yX4_isAsTheTheoremTells ∈ GW := inS (i := 2) rfl rfl
theorem se_X0_indexOfKey : Cond.selects RX0 yX0_indexOfKey yX0_indexOfKey ∈ GW := inS (i := 3) rfl rfl
theorem se_X4_isCopyInOrder : Cond.selects RX4 yX4_isCopyInOrder yX4_isCopyInOrder ∈ GW := inS (i := 4) rfl rfl
theorem se_X4_isEqualInOppositeOrder : Cond.selects RX4 yX4_isEqualInOppositeOrder yX4_isEqualInOppositeOrder ∈ GW := inS (i := 5) rfl rfl
theorem se_X4_closeCursors : Cond.selects RX4 yX4_closeCursors yX4_closeCursors ∈ GW := inS (i := 6) rfl rfl
theorem se_X4_cursorOfNumber : Cond.selects RX4 yX4_cursorOfNumber yX4_cursorOfNumber ∈ GW := inS (i := 7) rfl rfl
theorem se_X4_bookChangedByHand : Cond.selects RX4 yX4_bookChangedByHand yX4_bookChangedByHand ∈ GW := inS (i := 8) rfl rfl
theorem se_X4_requireRoomForKey : Cond.selects RX4 yX4_requireRoomForKey yX4_requireRoomForKey ∈ GW := inS (i := 9) rfl rfl
theorem se_X4_requireRoom : Cond.selects RX4 yX4_requireRoom yX4_requireRoom ∈ GW := inS (i := 10) rfl rfl
theorem se_X4_plainBook : Cond.selects RX4 yX4_plainBook yX4_plainBook ∈ GW := inS (i := 11) rfl rfl
theorem se_X4_requireTwoBooks : Cond.selects RX4 yX4_requireTwoBooks yX4_requireTwoBooks ∈ GW := inS (i := 12) rfl rfl
theorem se_X4_requireKind : Cond.selects RX4 yX4_requireKind yX4_requireKind ∈ GW := inS (i := 13) rfl rfl
theorem se_X4_openCursor : Cond.selects RX4 yX4_openCursor yX4_openCursor ∈ GW := inS (i := 14) rfl rfl
theorem se_X4_requireChangeablePair : Cond.selects RX4 yX4_requireChangeablePair yX4_requireChangeablePair ∈ GW := inS (i := 15) rfl rfl
theorem se_X4_requirePlace : Cond.selects RX4 yX4_requirePlace yX4_requirePlace ∈ GW := inS (i := 16) rfl rfl
theorem se_X5_refuse : Cond.selects RX5 yX5_refuse yX5_refuse ∈ GW := inS (i := 17) rfl rfl
theorem se_X5_closes : Cond.selects RX5 yX5_closes yX5_closes ∈ GW := inS (i := 18) rfl rfl
theorem se_X5_told : Cond.selects RX5 yX5_told yX5_told ∈ GW := inS (i := 19) rfl rfl
theorem se_X5_denies : Cond.selects RX5 yX5_denies yX5_denies ∈ GW := inS (i := 20) rfl rfl
theorem se_X5_isFull : Cond.selects RX5 yX5_isFull yX5_isFull ∈ GW := inS (i := 21) rfl rfl
theorem se_X5_place : Cond.selects RX5 yX5_place yX5_place ∈ GW := inS (i := 22) rfl rfl
theorem se_X5_puts : Cond.selects RX5 yX5_puts yX5_puts ∈ GW := inS (i := 23) rfl rfl
theorem se_X5_comes : Cond.selects RX5 yX5_comes yX5_comes ∈ GW := inS (i := 24) rfl rfl
theorem se_X5_takes : Cond.selects RX5 yX5_takes yX5_takes ∈ GW := inS (i := 25) rfl rfl
theorem se_X5_says : Cond.selects RX5 yX5_says yX5_says ∈ GW := inS (i := 26) rfl rfl
theorem se_X5_lacks : Cond.selects RX5 yX5_lacks yX5_lacks ∈ GW := inS (i := 27) rfl rfl
theorem se_X5_isOpen : Cond.selects RX5 yX5_isOpen yX5_isOpen ∈ GW := inS (i := 28) rfl rfl
theorem se_X5_canChange : Cond.selects RX5 yX5_canChange yX5_canChange ∈ GW := inS (i := 29) rfl rfl
theorem se_X5_isPlace : Cond.selects RX5 yX5_isPlace yX5_isPlace ∈ GW := inS (i := 30) rfl rfl
theorem se_X5_hasPair : Cond.selects RX5 yX5_hasPair yX5_hasPair ∈ GW := inS (i := 31) rfl rfl
theorem se_X5_writes : Cond.selects RX5 yX5_writes yX5_writes ∈ GW := inS (i := 32) rfl rfl
theorem se_X5_writesNumber : Cond.selects RX5 yX5_writesNumber yX5_writesNumber ∈ GW := inS (i := 33) rfl rfl
theorem se_X5_isTrue : Cond.selects RX5 yX5_isTrue yX5_isTrue ∈ GW := inS (i := 34) rfl rfl
theorem iw0 : ∀ w ∈ u_ws RX0 TX0 4, w ∈ GW := List.forall_mem_cons.mpr ⟨inT1 (i := 39) rfl rfl, List.forall_mem_cons.mpr ⟨inT1 (i := 41) rfl rfl, List.forall_mem_cons.mpr ⟨inT1 (i := 43) rfl rfl, List.forall_mem_cons.mpr ⟨inT1 (i := 45) rfl rfl, fun _ h => absurd h List.not_mem_nil⟩⟩⟩⟩
theorem iw1 : ∀ w ∈ u_ws RX1 TX1 6, w ∈ GW := List.forall_mem_cons.mpr ⟨inT1 (i := 60) rfl rfl, List.forall_mem_cons.mpr ⟨inT1 (i := 62) rfl rfl, List.forall_mem_cons.mpr ⟨inT1 (i := 64) rfl rfl, List.forall_mem_cons.mpr ⟨inT1 (i := 66) rfl rfl, List.forall_mem_cons.mpr ⟨inT1 (i := 68) rfl rfl, List.forall_mem_cons.mpr ⟨inT1 (i := 70) rfl rfl, fun _ h => absurd h List.not_mem_nil⟩⟩⟩⟩⟩⟩
theorem iw2 : ∀ w ∈ u_ws RX2 TX2 4, w ∈ GW := List.forall_mem_cons.mpr ⟨inT1 (i := 87) rfl rfl, List.forall_mem_cons.mpr ⟨inT1 (i := 89) rfl rfl, List.forall_mem_cons.mpr ⟨inT1 (i := 91) rfl rfl, List.forall_mem_cons.mpr ⟨inT1 (i := 93) rfl rfl, fun _ h => absurd h List.not_mem_nil⟩⟩⟩⟩
theorem iw3 : ∀ w ∈ u_ws RX3 TX3 2, w ∈ GW := List.forall_mem_cons.mpr ⟨inT1 (i := 105) rfl rfl, List.forall_mem_cons.mpr ⟨inT1 (i := 107) rfl rfl, fun _ h => absurd h List.not_mem_nil⟩⟩
theorem iw4 : ∀ w ∈ u_ws RX4 TX4 9, w ∈ GW := List.forall_mem_cons.mpr ⟨inT1 (i := 120) rfl rfl, List.forall_mem_cons.mpr ⟨inT1 (i := 122) rfl rfl, List.forall_mem_cons.mpr ⟨inT1 (i := 124) rfl rfl, List.forall_mem_cons.mpr ⟨inT1 (i := 126) rfl rfl, List.forall_mem_cons.mpr ⟨inT1 (i := 128) rfl rfl, List.forall_mem_cons.mpr ⟨inT1 (i := 130) rfl rfl, List.forall_mem_cons.mpr ⟨inT1 (i := 132) rfl rfl, List.forall_mem_cons.mpr ⟨inT1 (i := 134) rfl rfl, List.forall_mem_cons.mpr ⟨inT1 (i := 136) rfl rfl, fun _ h => absurd h List.not_mem_nil⟩⟩⟩⟩⟩⟩⟩⟩⟩
theorem iw5 : ∀ w ∈ u_ws RX5 TX5 11, w ∈ GW := List.forall_mem_cons.mpr ⟨inT4 (i := 48) rfl rfl, List.forall_mem_cons.mpr ⟨inT4 (i := 50) rfl rfl, List.forall_mem_cons.mpr ⟨inT4 (i := 52) rfl rfl, List.forall_mem_cons.mpr ⟨inT4 (i := 54) rfl rfl, List.forall_mem_cons.mpr ⟨inT4 (i := 56) rfl rfl, List.forall_mem_cons.mpr ⟨inT4 (i := 58) rfl rfl, List.forall_mem_cons.mpr ⟨inT4 (i := 60) rfl rfl, List.forall_mem_cons.mpr ⟨inT4 (i := 62) rfl rfl, List.forall_mem_cons.mpr ⟨inT4 (i := 64) rfl rfl, List.forall_mem_cons.mpr ⟨inT4 (i := 66) rfl rfl, List.forall_mem_cons.mpr ⟨inT4 (i := 68) rfl rfl, fun _ h => absurd h List.not_mem_nil⟩⟩⟩⟩⟩⟩⟩⟩⟩⟩⟩
end
section
theorem dX0_init_0 : decode cX0_init 0 = .ok (.aload_n 0, 1) := by decide +kernel
theorem dX0_init_1 : decode cX0_init 1 = .ok (.invokespecial 3, 3) := by decide +kernel
theorem dX0_init_4 : decode cX0_init 4 = .ok (.aload_n 0, 1) := by decide +kernel
theorem dX0_init_5 : decode cX0_init 5 = .ok (.sipush 200, 3) := by decide +kernel
theorem dX0_init_8 : decode cX0_init 8 = .ok (.newarray .int, 2) := by decide +kernel
theorem dX0_init_10 : decode cX0_init 10 = .ok (.putfield 9, 3) := by decide +kernel
theorem dX0_init_13 : decode cX0_init 13 = .ok (.aload_n 0, 1) := by decide +kernel
theorem dX0_init_14 : decode cX0_init 14 = .ok (.sipush 200, 3) := by decide +kernel
theorem dX0_init_17 : decode cX0_init 17 = .ok (.newarray .int, 2) := by decide +kernel
theorem dX0_init_19 : decode cX0_init 19 = .ok (.putfield 15, 3) := by decide +kernel
theorem dX0_init_22 : decode cX0_init 22 = .ok (.return_, 1) := by decide +kernel
theorem dX0_cameIn_0 : decode cX0_cameIn 0 = .ok (.aload_n 0, 1) := by decide +kernel
theorem dX0_cameIn_1 : decode cX0_cameIn 1 = .ok (.getfield 18, 3) := by decide +kernel
theorem dX0_cameIn_4 : decode cX0_cameIn 4 = .ok (.sipush 200, 3) := by decide +kernel
theorem dX0_cameIn_7 : decode cX0_cameIn 7 = .ok (.if_icmp .lt 4, 3) := by decide +kernel
theorem dX0_cameIn_10 : decode cX0_cameIn 10 = .ok (.return_, 1) := by decide +kernel
theorem dX0_cameIn_11 : decode cX0_cameIn 11 = .ok (.aload_n 0, 1) := by decide +kernel
theorem dX0_cameIn_12 : decode cX0_cameIn 12 = .ok (.getfield 9, 3) := by decide +kernel
theorem dX0_cameIn_15 : decode cX0_cameIn 15 = .ok (.aload_n 0, 1) := by decide +kernel
theorem dX0_cameIn_16 : decode cX0_cameIn 16 = .ok (.getfield 18, 3) := by decide +kernel
theorem dX0_cameIn_19 : decode cX0_cameIn 19 = .ok (.iload_n 1, 1) := by decide +kernel
theorem dX0_cameIn_20 : decode cX0_cameIn 20 = .ok (.iastore, 1) := by decide +kernel
theorem dX0_cameIn_21 : decode cX0_cameIn 21 = .ok (.aload_n 0, 1) := by decide +kernel
theorem dX0_cameIn_22 : decode cX0_cameIn 22 = .ok (.getfield 15, 3) := by decide +kernel
theorem dX0_cameIn_25 : decode cX0_cameIn 25 = .ok (.aload_n 0, 1) := by decide +kernel
theorem dX0_cameIn_26 : decode cX0_cameIn 26 = .ok (.getfield 18, 3) := by decide +kernel
theorem dX0_cameIn_29 : decode cX0_cameIn 29 = .ok (.aload_n 0, 1) := by decide +kernel
theorem dX0_cameIn_30 : decode cX0_cameIn 30 = .ok (.getfield 22, 3) := by decide +kernel
theorem dX0_cameIn_33 : decode cX0_cameIn 33 = .ok (.iastore, 1) := by decide +kernel
theorem dX0_cameIn_34 : decode cX0_cameIn 34 = .ok (.aload_n 0, 1) := by decide +kernel
theorem dX0_cameIn_35 : decode cX0_cameIn 35 = .ok (.dup, 1) := by decide +kernel
theorem dX0_cameIn_36 : decode cX0_cameIn 36 = .ok (.getfield 18, 3) := by decide +kernel
theorem dX0_cameIn_39 : decode cX0_cameIn 39 = .ok (.iconst 1, 1) := by decide +kernel
theorem dX0_cameIn_40 : decode cX0_cameIn 40 = .ok (.iadd, 1) := by decide +kernel
theorem dX0_cameIn_41 : decode cX0_cameIn 41 = .ok (.putfield 18, 3) := by decide +kernel
theorem dX0_cameIn_44 : decode cX0_cameIn 44 = .ok (.aload_n 0, 1) := by decide +kernel
theorem dX0_cameIn_45 : decode cX0_cameIn 45 = .ok (.dup, 1) := by decide +kernel
theorem dX0_cameIn_46 : decode cX0_cameIn 46 = .ok (.getfield 22, 3) := by decide +kernel
theorem dX0_cameIn_49 : decode cX0_cameIn 49 = .ok (.iconst 1, 1) := by decide +kernel
theorem dX0_cameIn_50 : decode cX0_cameIn 50 = .ok (.iadd, 1) := by decide +kernel
theorem dX0_cameIn_51 : decode cX0_cameIn 51 = .ok (.putfield 22, 3) := by decide +kernel
theorem dX0_cameIn_54 : decode cX0_cameIn 54 = .ok (.return_, 1) := by decide +kernel
theorem dX0_wentOut_0 : decode cX0_wentOut 0 = .ok (.aload_n 0, 1) := by decide +kernel
theorem dX0_wentOut_1 : decode cX0_wentOut 1 = .ok (.iload_n 1, 1) := by decide +kernel
theorem dX0_wentOut_2 : decode cX0_wentOut 2 = .ok (.invokevirtual 25, 3) := by decide +kernel
theorem dX0_wentOut_5 : decode cX0_wentOut 5 = .ok (.istore_n 2, 1) := by decide +kernel
theorem dX0_wentOut_6 : decode cX0_wentOut 6 = .ok (.iload_n 2, 1) := by decide +kernel
theorem dX0_wentOut_7 : decode cX0_wentOut 7 = .ok (.iconst (-1), 1) := by decide +kernel
theorem dX0_wentOut_8 : decode cX0_wentOut 8 = .ok (.if_icmp .ne 4, 3) := by decide +kernel
theorem dX0_wentOut_11 : decode cX0_wentOut 11 = .ok (.return_, 1) := by decide +kernel
theorem dX0_wentOut_12 : decode cX0_wentOut 12 = .ok (.aload_n 0, 1) := by decide +kernel
theorem dX0_wentOut_13 : decode cX0_wentOut 13 = .ok (.dup, 1) := by decide +kernel
theorem dX0_wentOut_14 : decode cX0_wentOut 14 = .ok (.getfield 18, 3) := by decide +kernel
theorem dX0_wentOut_17 : decode cX0_wentOut 17 = .ok (.iconst 1, 1) := by decide +kernel
theorem dX0_wentOut_18 : decode cX0_wentOut 18 = .ok (.isub, 1) := by decide +kernel
theorem dX0_wentOut_19 : decode cX0_wentOut 19 = .ok (.putfield 18, 3) := by decide +kernel
theorem dX0_wentOut_22 : decode cX0_wentOut 22 = .ok (.aload_n 0, 1) := by decide +kernel
theorem dX0_wentOut_23 : decode cX0_wentOut 23 = .ok (.getfield 9, 3) := by decide +kernel
theorem dX0_wentOut_26 : decode cX0_wentOut 26 = .ok (.iload_n 2, 1) := by decide +kernel
theorem dX0_wentOut_27 : decode cX0_wentOut 27 = .ok (.aload_n 0, 1) := by decide +kernel
theorem dX0_wentOut_28 : decode cX0_wentOut 28 = .ok (.getfield 9, 3) := by decide +kernel
theorem dX0_wentOut_31 : decode cX0_wentOut 31 = .ok (.aload_n 0, 1) := by decide +kernel
theorem dX0_wentOut_32 : decode cX0_wentOut 32 = .ok (.getfield 18, 3) := by decide +kernel
theorem dX0_wentOut_35 : decode cX0_wentOut 35 = .ok (.iaload, 1) := by decide +kernel
theorem dX0_wentOut_36 : decode cX0_wentOut 36 = .ok (.iastore, 1) := by decide +kernel
theorem dX0_wentOut_37 : decode cX0_wentOut 37 = .ok (.aload_n 0, 1) := by decide +kernel
theorem dX0_wentOut_38 : decode cX0_wentOut 38 = .ok (.getfield 15, 3) := by decide +kernel
theorem dX0_wentOut_41 : decode cX0_wentOut 41 = .ok (.iload_n 2, 1) := by decide +kernel
theorem dX0_wentOut_42 : decode cX0_wentOut 42 = .ok (.aload_n 0, 1) := by decide +kernel
theorem dX0_wentOut_43 : decode cX0_wentOut 43 = .ok (.getfield 15, 3) := by decide +kernel
theorem dX0_wentOut_46 : decode cX0_wentOut 46 = .ok (.aload_n 0, 1) := by decide +kernel
theorem dX0_wentOut_47 : decode cX0_wentOut 47 = .ok (.getfield 18, 3) := by decide +kernel
theorem dX0_wentOut_50 : decode cX0_wentOut 50 = .ok (.iaload, 1) := by decide +kernel
theorem dX0_wentOut_51 : decode cX0_wentOut 51 = .ok (.iastore, 1) := by decide +kernel
theorem dX0_wentOut_52 : decode cX0_wentOut 52 = .ok (.return_, 1) := by decide +kernel
theorem dX0_allWentOut_0 : decode cX0_allWentOut 0 = .ok (.aload_n 0, 1) := by decide +kernel
theorem dX0_allWentOut_1 : decode cX0_allWentOut 1 = .ok (.iconst 0, 1) := by decide +kernel
theorem dX0_allWentOut_2 : decode cX0_allWentOut 2 = .ok (.putfield 18, 3) := by decide +kernel
theorem dX0_allWentOut_5 : decode cX0_allWentOut 5 = .ok (.return_, 1) := by decide +kernel
theorem dX0_tellOf_0 : decode cX0_tellOf 0 = .ok (.aload_n 1, 1) := by decide +kernel
theorem dX0_tellOf_1 : decode cX0_tellOf 1 = .ok (.getfield 29, 3) := by decide +kernel
theorem dX0_tellOf_4 : decode cX0_tellOf 4 = .ok (.aload_n 0, 1) := by decide +kernel
theorem dX0_tellOf_5 : decode cX0_tellOf 5 = .ok (.getfield 18, 3) := by decide +kernel
theorem dX0_tellOf_8 : decode cX0_tellOf 8 = .ok (.if_icmp .eq 5, 3) := by decide +kernel
theorem dX0_tellOf_11 : decode cX0_tellOf 11 = .ok (.iconst 0, 1) := by decide +kernel
theorem dX0_tellOf_12 : decode cX0_tellOf 12 = .ok (.ireturn, 1) := by decide +kernel
theorem dX0_tellOf_13 : decode cX0_tellOf 13 = .ok (.iconst (-1), 1) := by decide +kernel
theorem dX0_tellOf_14 : decode cX0_tellOf 14 = .ok (.istore_n 2, 1) := by decide +kernel
theorem dX0_tellOf_15 : decode cX0_tellOf 15 = .ok (.iconst 0, 1) := by decide +kernel
theorem dX0_tellOf_16 : decode cX0_tellOf 16 = .ok (.istore_n 3, 1) := by decide +kernel
theorem dX0_tellOf_17 : decode cX0_tellOf 17 = .ok (.iload_n 3, 1) := by decide +kernel
theorem dX0_tellOf_18 : decode cX0_tellOf 18 = .ok (.aload_n 1, 1) := by decide +kernel
theorem dX0_tellOf_19 : decode cX0_tellOf 19 = .ok (.getfield 29, 3) := by decide +kernel
theorem dX0_tellOf_22 : decode cX0_tellOf 22 = .ok (.if_icmp .ge 47, 3) := by decide +kernel
theorem dX0_tellOf_25 : decode cX0_tellOf 25 = .ok (.aload_n 0, 1) := by decide +kernel
theorem dX0_tellOf_26 : decode cX0_tellOf 26 = .ok (.aload_n 1, 1) := by decide +kernel
theorem dX0_tellOf_27 : decode cX0_tellOf 27 = .ok (.iload_n 3, 1) := by decide +kernel
theorem dX0_tellOf_28 : decode cX0_tellOf 28 = .ok (.invokevirtual 32, 3) := by decide +kernel
theorem dX0_tellOf_31 : decode cX0_tellOf 31 = .ok (.invokevirtual 25, 3) := by decide +kernel
theorem dX0_tellOf_34 : decode cX0_tellOf 34 = .ok (.istore 4, 2) := by decide +kernel
theorem dX0_tellOf_36 : decode cX0_tellOf 36 = .ok (.iload 4, 2) := by decide +kernel
theorem dX0_tellOf_38 : decode cX0_tellOf 38 = .ok (.iconst (-1), 1) := by decide +kernel
theorem dX0_tellOf_39 : decode cX0_tellOf 39 = .ok (.if_icmp .eq 14, 3) := by decide +kernel
theorem dX0_tellOf_42 : decode cX0_tellOf 42 = .ok (.aload_n 0, 1) := by decide +kernel
theorem dX0_tellOf_43 : decode cX0_tellOf 43 = .ok (.getfield 15, 3) := by decide +kernel
theorem dX0_tellOf_46 : decode cX0_tellOf 46 = .ok (.iload 4, 2) := by decide +kernel
theorem dX0_tellOf_48 : decode cX0_tellOf 48 = .ok (.iaload, 1) := by decide +kernel
theorem dX0_tellOf_49 : decode cX0_tellOf 49 = .ok (.iload_n 2, 1) := by decide +kernel
theorem dX0_tellOf_50 : decode cX0_tellOf 50 = .ok (.if_icmp .gt 5, 3) := by decide +kernel
theorem dX0_tellOf_53 : decode cX0_tellOf 53 = .ok (.iconst 0, 1) := by decide +kernel
theorem dX0_tellOf_54 : decode cX0_tellOf 54 = .ok (.ireturn, 1) := by decide +kernel
theorem dX0_tellOf_55 : decode cX0_tellOf 55 = .ok (.aload_n 0, 1) := by decide +kernel
theorem dX0_tellOf_56 : decode cX0_tellOf 56 = .ok (.getfield 15, 3) := by decide +kernel
theorem dX0_tellOf_59 : decode cX0_tellOf 59 = .ok (.iload 4, 2) := by decide +kernel
theorem dX0_tellOf_61 : decode cX0_tellOf 61 = .ok (.iaload, 1) := by decide +kernel
theorem dX0_tellOf_62 : decode cX0_tellOf 62 = .ok (.istore_n 2, 1) := by decide +kernel
theorem dX0_tellOf_63 : decode cX0_tellOf 63 = .ok (.iinc 3 1, 3) := by decide +kernel
theorem dX0_tellOf_66 : decode cX0_tellOf 66 = .ok (.goto (-49), 3) := by decide +kernel
theorem dX0_tellOf_69 : decode cX0_tellOf 69 = .ok (.iconst 1, 1) := by decide +kernel
theorem dX0_tellOf_70 : decode cX0_tellOf 70 = .ok (.ireturn, 1) := by decide +kernel
theorem dX0_indexOfKey_0 : decode cX0_indexOfKey 0 = .ok (.iconst 0, 1) := by decide +kernel
theorem dX0_indexOfKey_1 : decode cX0_indexOfKey 1 = .ok (.istore_n 2, 1) := by decide +kernel
theorem dX0_indexOfKey_2 : decode cX0_indexOfKey 2 = .ok (.iload_n 2, 1) := by decide +kernel
theorem dX0_indexOfKey_3 : decode cX0_indexOfKey 3 = .ok (.aload_n 0, 1) := by decide +kernel
theorem dX0_indexOfKey_4 : decode cX0_indexOfKey 4 = .ok (.getfield 18, 3) := by decide +kernel
theorem dX0_indexOfKey_7 : decode cX0_indexOfKey 7 = .ok (.if_icmp .ge 21, 3) := by decide +kernel
theorem dX0_indexOfKey_10 : decode cX0_indexOfKey 10 = .ok (.aload_n 0, 1) := by decide +kernel
theorem dX0_indexOfKey_11 : decode cX0_indexOfKey 11 = .ok (.getfield 9, 3) := by decide +kernel
theorem dX0_indexOfKey_14 : decode cX0_indexOfKey 14 = .ok (.iload_n 2, 1) := by decide +kernel
theorem dX0_indexOfKey_15 : decode cX0_indexOfKey 15 = .ok (.iaload, 1) := by decide +kernel
theorem dX0_indexOfKey_16 : decode cX0_indexOfKey 16 = .ok (.iload_n 1, 1) := by decide +kernel
theorem dX0_indexOfKey_17 : decode cX0_indexOfKey 17 = .ok (.if_icmp .ne 5, 3) := by decide +kernel
theorem dX0_indexOfKey_20 : decode cX0_indexOfKey 20 = .ok (.iload_n 2, 1) := by decide +kernel
theorem dX0_indexOfKey_21 : decode cX0_indexOfKey 21 = .ok (.ireturn, 1) := by decide +kernel
theorem dX0_indexOfKey_22 : decode cX0_indexOfKey 22 = .ok (.iinc 2 1, 3) := by decide +kernel
theorem dX0_indexOfKey_25 : decode cX0_indexOfKey 25 = .ok (.goto (-23), 3) := by decide +kernel
theorem dX0_indexOfKey_28 : decode cX0_indexOfKey 28 = .ok (.iconst (-1), 1) := by decide +kernel
theorem dX0_indexOfKey_29 : decode cX0_indexOfKey 29 = .ok (.ireturn, 1) := by decide +kernel
theorem dX1_init_0 : decode cX1_init 0 = .ok (.aload_n 0, 1) := by decide +kernel
theorem dX1_init_1 : decode cX1_init 1 = .ok (.invokespecial 3, 3) := by decide +kernel
theorem dX1_init_4 : decode cX1_init 4 = .ok (.aload_n 0, 1) := by decide +kernel
theorem dX1_init_5 : decode cX1_init 5 = .ok (.sipush 200, 3) := by decide +kernel
theorem dX1_init_8 : decode cX1_init 8 = .ok (.newarray .int, 2) := by decide +kernel
theorem dX1_init_10 : decode cX1_init 10 = .ok (.putfield 9, 3) := by decide +kernel
theorem dX1_init_13 : decode cX1_init 13 = .ok (.aload_n 0, 1) := by decide +kernel
theorem dX1_init_14 : decode cX1_init 14 = .ok (.sipush 200, 3) := by decide +kernel
theorem dX1_init_17 : decode cX1_init 17 = .ok (.newarray .int, 2) := by decide +kernel
theorem dX1_init_19 : decode cX1_init 19 = .ok (.putfield 15, 3) := by decide +kernel
theorem dX1_init_22 : decode cX1_init 22 = .ok (.aload_n 0, 1) := by decide +kernel
theorem dX1_init_23 : decode cX1_init 23 = .ok (.new 18, 3) := by decide +kernel
theorem dX1_init_26 : decode cX1_init 26 = .ok (.dup, 1) := by decide +kernel
theorem dX1_init_27 : decode cX1_init 27 = .ok (.invokespecial 20, 3) := by decide +kernel
theorem dX1_init_30 : decode cX1_init 30 = .ok (.putfield 21, 3) := by decide +kernel
theorem dX1_init_33 : decode cX1_init 33 = .ok (.aload_n 0, 1) := by decide +kernel
theorem dX1_init_34 : decode cX1_init 34 = .ok (.iload_n 1, 1) := by decide +kernel
theorem dX1_init_35 : decode cX1_init 35 = .ok (.putfield 25, 3) := by decide +kernel
theorem dX1_init_38 : decode cX1_init 38 = .ok (.aload_n 0, 1) := by decide +kernel
theorem dX1_init_39 : decode cX1_init 39 = .ok (.iload_n 2, 1) := by decide +kernel
theorem dX1_init_40 : decode cX1_init 40 = .ok (.putfield 29, 3) := by decide +kernel
theorem dX1_init_43 : decode cX1_init 43 = .ok (.return_, 1) := by decide +kernel
theorem dX1_reaches_0 : decode cX1_reaches 0 = .ok (.iload_n 1, 1) := by decide +kernel
theorem dX1_reaches_1 : decode cX1_reaches 1 = .ok (.ifCond .lt 15, 3) := by decide +kernel
theorem dX1_reaches_4 : decode cX1_reaches 4 = .ok (.iload_n 1, 1) := by decide +kernel
theorem dX1_reaches_5 : decode cX1_reaches 5 = .ok (.aload_n 0, 1) := by decide +kernel
theorem dX1_reaches_6 : decode cX1_reaches 6 = .ok (.getfield 33, 3) := by decide +kernel
theorem dX1_reaches_9 : decode cX1_reaches 9 = .ok (.if_icmp .ge 7, 3) := by decide +kernel
theorem dX1_reaches_12 : decode cX1_reaches 12 = .ok (.iconst 1, 1) := by decide +kernel
theorem dX1_reaches_13 : decode cX1_reaches 13 = .ok (.goto 4, 3) := by decide +kernel
theorem dX1_reaches_16 : decode cX1_reaches 16 = .ok (.iconst 0, 1) := by decide +kernel
theorem dX1_reaches_17 : decode cX1_reaches 17 = .ok (.ireturn, 1) := by decide +kernel
theorem dX1_find_0 : decode cX1_find 0 = .ok (.iconst 0, 1) := by decide +kernel
theorem dX1_find_1 : decode cX1_find 1 = .ok (.istore_n 2, 1) := by decide +kernel
theorem dX1_find_2 : decode cX1_find 2 = .ok (.iload_n 2, 1) := by decide +kernel
theorem dX1_find_3 : decode cX1_find 3 = .ok (.aload_n 0, 1) := by decide +kernel
theorem dX1_find_4 : decode cX1_find 4 = .ok (.getfield 33, 3) := by decide +kernel
theorem dX1_find_7 : decode cX1_find 7 = .ok (.if_icmp .ge 21, 3) := by decide +kernel
theorem dX1_find_10 : decode cX1_find 10 = .ok (.aload_n 0, 1) := by decide +kernel
theorem dX1_find_11 : decode cX1_find 11 = .ok (.getfield 9, 3) := by decide +kernel
theorem dX1_find_14 : decode cX1_find 14 = .ok (.iload_n 2, 1) := by decide +kernel
theorem dX1_find_15 : decode cX1_find 15 = .ok (.iaload, 1) := by decide +kernel
theorem dX1_find_16 : decode cX1_find 16 = .ok (.iload_n 1, 1) := by decide +kernel
theorem dX1_find_17 : decode cX1_find 17 = .ok (.if_icmp .ne 5, 3) := by decide +kernel
theorem dX1_find_20 : decode cX1_find 20 = .ok (.iload_n 2, 1) := by decide +kernel
theorem dX1_find_21 : decode cX1_find 21 = .ok (.ireturn, 1) := by decide +kernel
theorem dX1_find_22 : decode cX1_find 22 = .ok (.iinc 2 1, 3) := by decide +kernel
theorem dX1_find_25 : decode cX1_find 25 = .ok (.goto (-23), 3) := by decide +kernel
theorem dX1_find_28 : decode cX1_find 28 = .ok (.iconst (-1), 1) := by decide +kernel
theorem dX1_find_29 : decode cX1_find 29 = .ok (.ireturn, 1) := by decide +kernel
theorem dX1_keyOn_0 : decode cX1_keyOn 0 = .ok (.aload_n 0, 1) := by decide +kernel
theorem dX1_keyOn_1 : decode cX1_keyOn 1 = .ok (.iload_n 1, 1) := by decide +kernel
theorem dX1_keyOn_2 : decode cX1_keyOn 2 = .ok (.invokevirtual 36, 3) := by decide +kernel
theorem dX1_keyOn_5 : decode cX1_keyOn 5 = .ok (.ifCond .eq 12, 3) := by decide +kernel
theorem dX1_keyOn_8 : decode cX1_keyOn 8 = .ok (.aload_n 0, 1) := by decide +kernel
theorem dX1_keyOn_9 : decode cX1_keyOn 9 = .ok (.getfield 9, 3) := by decide +kernel
theorem dX1_keyOn_12 : decode cX1_keyOn 12 = .ok (.iload_n 1, 1) := by decide +kernel
theorem dX1_keyOn_13 : decode cX1_keyOn 13 = .ok (.iaload, 1) := by decide +kernel
theorem dX1_keyOn_14 : decode cX1_keyOn 14 = .ok (.goto 4, 3) := by decide +kernel
theorem dX1_keyOn_17 : decode cX1_keyOn 17 = .ok (.iconst 0, 1) := by decide +kernel
theorem dX1_keyOn_18 : decode cX1_keyOn 18 = .ok (.ireturn, 1) := by decide +kernel
theorem dX1_valueOn_0 : decode cX1_valueOn 0 = .ok (.aload_n 0, 1) := by decide +kernel
theorem dX1_valueOn_1 : decode cX1_valueOn 1 = .ok (.iload_n 1, 1) := by decide +kernel
theorem dX1_valueOn_2 : decode cX1_valueOn 2 = .ok (.invokevirtual 36, 3) := by decide +kernel
theorem dX1_valueOn_5 : decode cX1_valueOn 5 = .ok (.ifCond .eq 12, 3) := by decide +kernel
theorem dX1_valueOn_8 : decode cX1_valueOn 8 = .ok (.aload_n 0, 1) := by decide +kernel
theorem dX1_valueOn_9 : decode cX1_valueOn 9 = .ok (.getfield 15, 3) := by decide +kernel
theorem dX1_valueOn_12 : decode cX1_valueOn 12 = .ok (.iload_n 1, 1) := by decide +kernel
theorem dX1_valueOn_13 : decode cX1_valueOn 13 = .ok (.iaload, 1) := by decide +kernel
theorem dX1_valueOn_14 : decode cX1_valueOn 14 = .ok (.goto 4, 3) := by decide +kernel
theorem dX1_valueOn_17 : decode cX1_valueOn 17 = .ok (.iconst 0, 1) := by decide +kernel
theorem dX1_valueOn_18 : decode cX1_valueOn 18 = .ok (.ireturn, 1) := by decide +kernel
theorem dX1_holdsValue_0 : decode cX1_holdsValue 0 = .ok (.iconst 0, 1) := by decide +kernel
theorem dX1_holdsValue_1 : decode cX1_holdsValue 1 = .ok (.istore_n 2, 1) := by decide +kernel
theorem dX1_holdsValue_2 : decode cX1_holdsValue 2 = .ok (.iload_n 2, 1) := by decide +kernel
theorem dX1_holdsValue_3 : decode cX1_holdsValue 3 = .ok (.aload_n 0, 1) := by decide +kernel
theorem dX1_holdsValue_4 : decode cX1_holdsValue 4 = .ok (.getfield 33, 3) := by decide +kernel
theorem dX1_holdsValue_7 : decode cX1_holdsValue 7 = .ok (.if_icmp .ge 21, 3) := by decide +kernel
theorem dX1_holdsValue_10 : decode cX1_holdsValue 10 = .ok (.aload_n 0, 1) := by decide +kernel
theorem dX1_holdsValue_11 : decode cX1_holdsValue 11 = .ok (.getfield 15, 3) := by decide +kernel
theorem dX1_holdsValue_14 : decode cX1_holdsValue 14 = .ok (.iload_n 2, 1) := by decide +kernel
theorem dX1_holdsValue_15 : decode cX1_holdsValue 15 = .ok (.iaload, 1) := by decide +kernel
theorem dX1_holdsValue_16 : decode cX1_holdsValue 16 = .ok (.iload_n 1, 1) := by decide +kernel
theorem dX1_holdsValue_17 : decode cX1_holdsValue 17 = .ok (.if_icmp .ne 5, 3) := by decide +kernel
theorem dX1_holdsValue_20 : decode cX1_holdsValue 20 = .ok (.iconst 1, 1) := by decide +kernel
theorem dX1_holdsValue_21 : decode cX1_holdsValue 21 = .ok (.ireturn, 1) := by decide +kernel
theorem dX1_holdsValue_22 : decode cX1_holdsValue 22 = .ok (.iinc 2 1, 3) := by decide +kernel
theorem dX1_holdsValue_25 : decode cX1_holdsValue 25 = .ok (.goto (-23), 3) := by decide +kernel
theorem dX1_holdsValue_28 : decode cX1_holdsValue 28 = .ok (.iconst 0, 1) := by decide +kernel
theorem dX1_holdsValue_29 : decode cX1_holdsValue 29 = .ok (.ireturn, 1) := by decide +kernel
theorem dX1_give_0 : decode cX1_give 0 = .ok (.aload_n 0, 1) := by decide +kernel
theorem dX1_give_1 : decode cX1_give 1 = .ok (.iload_n 1, 1) := by decide +kernel
theorem dX1_give_2 : decode cX1_give 2 = .ok (.invokevirtual 36, 3) := by decide +kernel
theorem dX1_give_5 : decode cX1_give 5 = .ok (.ifCond .eq 10, 3) := by decide +kernel
theorem dX1_give_8 : decode cX1_give 8 = .ok (.aload_n 0, 1) := by decide +kernel
theorem dX1_give_9 : decode cX1_give 9 = .ok (.getfield 15, 3) := by decide +kernel
theorem dX1_give_12 : decode cX1_give 12 = .ok (.iload_n 1, 1) := by decide +kernel
theorem dX1_give_13 : decode cX1_give 13 = .ok (.iload_n 2, 1) := by decide +kernel
theorem dX1_give_14 : decode cX1_give 14 = .ok (.iastore, 1) := by decide +kernel
theorem dX1_give_15 : decode cX1_give 15 = .ok (.return_, 1) := by decide +kernel
theorem dX1_enter_0 : decode cX1_enter 0 = .ok (.aload_n 0, 1) := by decide +kernel
theorem dX1_enter_1 : decode cX1_enter 1 = .ok (.getfield 33, 3) := by decide +kernel
theorem dX1_enter_4 : decode cX1_enter 4 = .ok (.sipush 200, 3) := by decide +kernel
theorem dX1_enter_7 : decode cX1_enter 7 = .ok (.if_icmp .lt 4, 3) := by decide +kernel
theorem dX1_enter_10 : decode cX1_enter 10 = .ok (.return_, 1) := by decide +kernel
theorem dX1_enter_11 : decode cX1_enter 11 = .ok (.aload_n 0, 1) := by decide +kernel
theorem dX1_enter_12 : decode cX1_enter 12 = .ok (.getfield 9, 3) := by decide +kernel
theorem dX1_enter_15 : decode cX1_enter 15 = .ok (.aload_n 0, 1) := by decide +kernel
theorem dX1_enter_16 : decode cX1_enter 16 = .ok (.getfield 33, 3) := by decide +kernel
theorem dX1_enter_19 : decode cX1_enter 19 = .ok (.iload_n 1, 1) := by decide +kernel
theorem dX1_enter_20 : decode cX1_enter 20 = .ok (.iastore, 1) := by decide +kernel
theorem dX1_enter_21 : decode cX1_enter 21 = .ok (.aload_n 0, 1) := by decide +kernel
theorem dX1_enter_22 : decode cX1_enter 22 = .ok (.getfield 15, 3) := by decide +kernel
theorem dX1_enter_25 : decode cX1_enter 25 = .ok (.aload_n 0, 1) := by decide +kernel
theorem dX1_enter_26 : decode cX1_enter 26 = .ok (.getfield 33, 3) := by decide +kernel
theorem dX1_enter_29 : decode cX1_enter 29 = .ok (.iload_n 2, 1) := by decide +kernel
theorem dX1_enter_30 : decode cX1_enter 30 = .ok (.iastore, 1) := by decide +kernel
theorem dX1_enter_31 : decode cX1_enter 31 = .ok (.aload_n 0, 1) := by decide +kernel
theorem dX1_enter_32 : decode cX1_enter 32 = .ok (.dup, 1) := by decide +kernel
theorem dX1_enter_33 : decode cX1_enter 33 = .ok (.getfield 33, 3) := by decide +kernel
theorem dX1_enter_36 : decode cX1_enter 36 = .ok (.iconst 1, 1) := by decide +kernel
theorem dX1_enter_37 : decode cX1_enter 37 = .ok (.iadd, 1) := by decide +kernel
theorem dX1_enter_38 : decode cX1_enter 38 = .ok (.putfield 33, 3) := by decide +kernel
theorem dX1_enter_41 : decode cX1_enter 41 = .ok (.aload_n 0, 1) := by decide +kernel
theorem dX1_enter_42 : decode cX1_enter 42 = .ok (.getfield 21, 3) := by decide +kernel
theorem dX1_enter_45 : decode cX1_enter 45 = .ok (.iload_n 1, 1) := by decide +kernel
theorem dX1_enter_46 : decode cX1_enter 46 = .ok (.invokevirtual 40, 3) := by decide +kernel
theorem dX1_enter_49 : decode cX1_enter 49 = .ok (.aload_n 0, 1) := by decide +kernel
theorem dX1_enter_50 : decode cX1_enter 50 = .ok (.getfield 29, 3) := by decide +kernel
theorem dX1_enter_53 : decode cX1_enter 53 = .ok (.ifCond .eq 19, 3) := by decide +kernel
theorem dX1_enter_56 : decode cX1_enter 56 = .ok (.aload_n 0, 1) := by decide +kernel
theorem dX1_enter_57 : decode cX1_enter 57 = .ok (.getfield 33, 3) := by decide +kernel
theorem dX1_enter_60 : decode cX1_enter 60 = .ok (.aload_n 0, 1) := by decide +kernel
theorem dX1_enter_61 : decode cX1_enter 61 = .ok (.getfield 25, 3) := by decide +kernel
theorem dX1_enter_64 : decode cX1_enter 64 = .ok (.if_icmp .le 8, 3) := by decide +kernel
theorem dX1_enter_67 : decode cX1_enter 67 = .ok (.aload_n 0, 1) := by decide +kernel
theorem dX1_enter_68 : decode cX1_enter 68 = .ok (.iconst 0, 1) := by decide +kernel
theorem dX1_enter_69 : decode cX1_enter 69 = .ok (.invokevirtual 44, 3) := by decide +kernel
theorem dX1_enter_72 : decode cX1_enter 72 = .ok (.return_, 1) := by decide +kernel
theorem dX1_store_0 : decode cX1_store 0 = .ok (.aload_n 0, 1) := by decide +kernel
theorem dX1_store_1 : decode cX1_store 1 = .ok (.iload_n 1, 1) := by decide +kernel
theorem dX1_store_2 : decode cX1_store 2 = .ok (.invokevirtual 47, 3) := by decide +kernel
theorem dX1_store_5 : decode cX1_store 5 = .ok (.istore_n 3, 1) := by decide +kernel
theorem dX1_store_6 : decode cX1_store 6 = .ok (.iload_n 3, 1) := by decide +kernel
theorem dX1_store_7 : decode cX1_store 7 = .ok (.iconst (-1), 1) := by decide +kernel
theorem dX1_store_8 : decode cX1_store 8 = .ok (.if_icmp .ne 11, 3) := by decide +kernel
theorem dX1_store_11 : decode cX1_store 11 = .ok (.aload_n 0, 1) := by decide +kernel
theorem dX1_store_12 : decode cX1_store 12 = .ok (.iload_n 1, 1) := by decide +kernel
theorem dX1_store_13 : decode cX1_store 13 = .ok (.iload_n 2, 1) := by decide +kernel
theorem dX1_store_14 : decode cX1_store 14 = .ok (.invokevirtual 51, 3) := by decide +kernel
theorem dX1_store_17 : decode cX1_store 17 = .ok (.iconst 0, 1) := by decide +kernel
theorem dX1_store_18 : decode cX1_store 18 = .ok (.ireturn, 1) := by decide +kernel
theorem dX1_store_19 : decode cX1_store 19 = .ok (.aload_n 0, 1) := by decide +kernel
theorem dX1_store_20 : decode cX1_store 20 = .ok (.iload_n 3, 1) := by decide +kernel
theorem dX1_store_21 : decode cX1_store 21 = .ok (.iload_n 2, 1) := by decide +kernel
theorem dX1_store_22 : decode cX1_store 22 = .ok (.invokevirtual 55, 3) := by decide +kernel
theorem dX1_store_25 : decode cX1_store 25 = .ok (.iconst 1, 1) := by decide +kernel
theorem dX1_store_26 : decode cX1_store 26 = .ok (.ireturn, 1) := by decide +kernel
theorem dX1_leave_0 : decode cX1_leave 0 = .ok (.aload_n 0, 1) := by decide +kernel
theorem dX1_leave_1 : decode cX1_leave 1 = .ok (.iload_n 1, 1) := by decide +kernel
theorem dX1_leave_2 : decode cX1_leave 2 = .ok (.invokevirtual 36, 3) := by decide +kernel
theorem dX1_leave_5 : decode cX1_leave 5 = .ok (.ifCond .ne 4, 3) := by decide +kernel
theorem dX1_leave_8 : decode cX1_leave 8 = .ok (.return_, 1) := by decide +kernel
theorem dX1_leave_9 : decode cX1_leave 9 = .ok (.aload_n 0, 1) := by decide +kernel
theorem dX1_leave_10 : decode cX1_leave 10 = .ok (.getfield 21, 3) := by decide +kernel
theorem dX1_leave_13 : decode cX1_leave 13 = .ok (.aload_n 0, 1) := by decide +kernel
theorem dX1_leave_14 : decode cX1_leave 14 = .ok (.getfield 9, 3) := by decide +kernel
theorem dX1_leave_17 : decode cX1_leave 17 = .ok (.iload_n 1, 1) := by decide +kernel
theorem dX1_leave_18 : decode cX1_leave 18 = .ok (.iaload, 1) := by decide +kernel
theorem dX1_leave_19 : decode cX1_leave 19 = .ok (.invokevirtual 58, 3) := by decide +kernel
theorem dX1_leave_22 : decode cX1_leave 22 = .ok (.iload_n 1, 1) := by decide +kernel
theorem dX1_leave_23 : decode cX1_leave 23 = .ok (.iconst 1, 1) := by decide +kernel
theorem dX1_leave_24 : decode cX1_leave 24 = .ok (.iadd, 1) := by decide +kernel
theorem dX1_leave_25 : decode cX1_leave 25 = .ok (.istore_n 2, 1) := by decide +kernel
theorem dX1_leave_26 : decode cX1_leave 26 = .ok (.iload_n 2, 1) := by decide +kernel
theorem dX1_leave_27 : decode cX1_leave 27 = .ok (.aload_n 0, 1) := by decide +kernel
theorem dX1_leave_28 : decode cX1_leave 28 = .ok (.getfield 33, 3) := by decide +kernel
theorem dX1_leave_31 : decode cX1_leave 31 = .ok (.if_icmp .ge 37, 3) := by decide +kernel
theorem dX1_leave_34 : decode cX1_leave 34 = .ok (.aload_n 0, 1) := by decide +kernel
theorem dX1_leave_35 : decode cX1_leave 35 = .ok (.getfield 9, 3) := by decide +kernel
theorem dX1_leave_38 : decode cX1_leave 38 = .ok (.iload_n 2, 1) := by decide +kernel
theorem dX1_leave_39 : decode cX1_leave 39 = .ok (.iconst 1, 1) := by decide +kernel
theorem dX1_leave_40 : decode cX1_leave 40 = .ok (.isub, 1) := by decide +kernel
theorem dX1_leave_41 : decode cX1_leave 41 = .ok (.aload_n 0, 1) := by decide +kernel
theorem dX1_leave_42 : decode cX1_leave 42 = .ok (.getfield 9, 3) := by decide +kernel
theorem dX1_leave_45 : decode cX1_leave 45 = .ok (.iload_n 2, 1) := by decide +kernel
theorem dX1_leave_46 : decode cX1_leave 46 = .ok (.iaload, 1) := by decide +kernel
theorem dX1_leave_47 : decode cX1_leave 47 = .ok (.iastore, 1) := by decide +kernel
theorem dX1_leave_48 : decode cX1_leave 48 = .ok (.aload_n 0, 1) := by decide +kernel
theorem dX1_leave_49 : decode cX1_leave 49 = .ok (.getfield 15, 3) := by decide +kernel
theorem dX1_leave_52 : decode cX1_leave 52 = .ok (.iload_n 2, 1) := by decide +kernel
theorem dX1_leave_53 : decode cX1_leave 53 = .ok (.iconst 1, 1) := by decide +kernel
theorem dX1_leave_54 : decode cX1_leave 54 = .ok (.isub, 1) := by decide +kernel
theorem dX1_leave_55 : decode cX1_leave 55 = .ok (.aload_n 0, 1) := by decide +kernel
theorem dX1_leave_56 : decode cX1_leave 56 = .ok (.getfield 15, 3) := by decide +kernel
theorem dX1_leave_59 : decode cX1_leave 59 = .ok (.iload_n 2, 1) := by decide +kernel
theorem dX1_leave_60 : decode cX1_leave 60 = .ok (.iaload, 1) := by decide +kernel
theorem dX1_leave_61 : decode cX1_leave 61 = .ok (.iastore, 1) := by decide +kernel
theorem dX1_leave_62 : decode cX1_leave 62 = .ok (.iinc 2 1, 3) := by decide +kernel
theorem dX1_leave_65 : decode cX1_leave 65 = .ok (.goto (-39), 3) := by decide +kernel
theorem dX1_leave_68 : decode cX1_leave 68 = .ok (.aload_n 0, 1) := by decide +kernel
theorem dX1_leave_69 : decode cX1_leave 69 = .ok (.dup, 1) := by decide +kernel
theorem dX1_leave_70 : decode cX1_leave 70 = .ok (.getfield 33, 3) := by decide +kernel
theorem dX1_leave_73 : decode cX1_leave 73 = .ok (.iconst 1, 1) := by decide +kernel
theorem dX1_leave_74 : decode cX1_leave 74 = .ok (.isub, 1) := by decide +kernel
theorem dX1_leave_75 : decode cX1_leave 75 = .ok (.putfield 33, 3) := by decide +kernel
theorem dX1_leave_78 : decode cX1_leave 78 = .ok (.return_, 1) := by decide +kernel
theorem dX1_empty_0 : decode cX1_empty 0 = .ok (.aload_n 0, 1) := by decide +kernel
theorem dX1_empty_1 : decode cX1_empty 1 = .ok (.getfield 21, 3) := by decide +kernel
theorem dX1_empty_4 : decode cX1_empty 4 = .ok (.invokevirtual 61, 3) := by decide +kernel
theorem dX1_empty_7 : decode cX1_empty 7 = .ok (.aload_n 0, 1) := by decide +kernel
theorem dX1_empty_8 : decode cX1_empty 8 = .ok (.iconst 0, 1) := by decide +kernel
theorem dX1_empty_9 : decode cX1_empty 9 = .ok (.putfield 33, 3) := by decide +kernel
theorem dX1_empty_12 : decode cX1_empty 12 = .ok (.return_, 1) := by decide +kernel
theorem dX1_storeAllOf_0 : decode cX1_storeAllOf 0 = .ok (.iconst 0, 1) := by decide +kernel
theorem dX1_storeAllOf_1 : decode cX1_storeAllOf 1 = .ok (.istore_n 2, 1) := by decide +kernel
theorem dX1_storeAllOf_2 : decode cX1_storeAllOf 2 = .ok (.iload_n 2, 1) := by decide +kernel
theorem dX1_storeAllOf_3 : decode cX1_storeAllOf 3 = .ok (.aload_n 1, 1) := by decide +kernel
theorem dX1_storeAllOf_4 : decode cX1_storeAllOf 4 = .ok (.getfield 33, 3) := by decide +kernel
theorem dX1_storeAllOf_7 : decode cX1_storeAllOf 7 = .ok (.if_icmp .ge 24, 3) := by decide +kernel
theorem dX1_storeAllOf_10 : decode cX1_storeAllOf 10 = .ok (.aload_n 0, 1) := by decide +kernel
theorem dX1_storeAllOf_11 : decode cX1_storeAllOf 11 = .ok (.aload_n 1, 1) := by decide +kernel
theorem dX1_storeAllOf_12 : decode cX1_storeAllOf 12 = .ok (.iload_n 2, 1) := by decide +kernel
theorem dX1_storeAllOf_13 : decode cX1_storeAllOf 13 = .ok (.invokevirtual 64, 3) := by decide +kernel
theorem dX1_storeAllOf_16 : decode cX1_storeAllOf 16 = .ok (.aload_n 1, 1) := by decide +kernel
theorem dX1_storeAllOf_17 : decode cX1_storeAllOf 17 = .ok (.iload_n 2, 1) := by decide +kernel
theorem dX1_storeAllOf_18 : decode cX1_storeAllOf 18 = .ok (.invokevirtual 67, 3) := by decide +kernel
theorem dX1_storeAllOf_21 : decode cX1_storeAllOf 21 = .ok (.invokevirtual 70, 3) := by decide +kernel
theorem dX1_storeAllOf_24 : decode cX1_storeAllOf 24 = .ok (.pop, 1) := by decide +kernel
theorem dX1_storeAllOf_25 : decode cX1_storeAllOf 25 = .ok (.iinc 2 1, 3) := by decide +kernel
theorem dX1_storeAllOf_28 : decode cX1_storeAllOf 28 = .ok (.goto (-26), 3) := by decide +kernel
theorem dX1_storeAllOf_31 : decode cX1_storeAllOf 31 = .ok (.return_, 1) := by decide +kernel
theorem dX1_becomeCopyOf_0 : decode cX1_becomeCopyOf 0 = .ok (.aload_n 0, 1) := by decide +kernel
theorem dX1_becomeCopyOf_1 : decode cX1_becomeCopyOf 1 = .ok (.invokevirtual 74, 3) := by decide +kernel
theorem dX1_becomeCopyOf_4 : decode cX1_becomeCopyOf 4 = .ok (.iconst 0, 1) := by decide +kernel
theorem dX1_becomeCopyOf_5 : decode cX1_becomeCopyOf 5 = .ok (.istore_n 2, 1) := by decide +kernel
theorem dX1_becomeCopyOf_6 : decode cX1_becomeCopyOf 6 = .ok (.iload_n 2, 1) := by decide +kernel
theorem dX1_becomeCopyOf_7 : decode cX1_becomeCopyOf 7 = .ok (.aload_n 1, 1) := by decide +kernel
theorem dX1_becomeCopyOf_8 : decode cX1_becomeCopyOf 8 = .ok (.getfield 33, 3) := by decide +kernel
theorem dX1_becomeCopyOf_11 : decode cX1_becomeCopyOf 11 = .ok (.if_icmp .ge 23, 3) := by decide +kernel
theorem dX1_becomeCopyOf_14 : decode cX1_becomeCopyOf 14 = .ok (.aload_n 0, 1) := by decide +kernel
theorem dX1_becomeCopyOf_15 : decode cX1_becomeCopyOf 15 = .ok (.aload_n 1, 1) := by decide +kernel
theorem dX1_becomeCopyOf_16 : decode cX1_becomeCopyOf 16 = .ok (.iload_n 2, 1) := by decide +kernel
theorem dX1_becomeCopyOf_17 : decode cX1_becomeCopyOf 17 = .ok (.invokevirtual 64, 3) := by decide +kernel
theorem dX1_becomeCopyOf_20 : decode cX1_becomeCopyOf 20 = .ok (.aload_n 1, 1) := by decide +kernel
theorem dX1_becomeCopyOf_21 : decode cX1_becomeCopyOf 21 = .ok (.iload_n 2, 1) := by decide +kernel
theorem dX1_becomeCopyOf_22 : decode cX1_becomeCopyOf 22 = .ok (.invokevirtual 67, 3) := by decide +kernel
theorem dX1_becomeCopyOf_25 : decode cX1_becomeCopyOf 25 = .ok (.invokevirtual 51, 3) := by decide +kernel
theorem dX1_becomeCopyOf_28 : decode cX1_becomeCopyOf 28 = .ok (.iinc 2 1, 3) := by decide +kernel
theorem dX1_becomeCopyOf_31 : decode cX1_becomeCopyOf 31 = .ok (.goto (-25), 3) := by decide +kernel
theorem dX1_becomeCopyOf_34 : decode cX1_becomeCopyOf 34 = .ok (.return_, 1) := by decide +kernel
theorem dX1_countMissingIn_0 : decode cX1_countMissingIn 0 = .ok (.iconst 0, 1) := by decide +kernel
theorem dX1_countMissingIn_1 : decode cX1_countMissingIn 1 = .ok (.istore_n 2, 1) := by decide +kernel
theorem dX1_countMissingIn_2 : decode cX1_countMissingIn 2 = .ok (.iconst 0, 1) := by decide +kernel
theorem dX1_countMissingIn_3 : decode cX1_countMissingIn 3 = .ok (.istore_n 3, 1) := by decide +kernel
theorem dX1_countMissingIn_4 : decode cX1_countMissingIn 4 = .ok (.iload_n 3, 1) := by decide +kernel
theorem dX1_countMissingIn_5 : decode cX1_countMissingIn 5 = .ok (.aload_n 0, 1) := by decide +kernel
theorem dX1_countMissingIn_6 : decode cX1_countMissingIn 6 = .ok (.getfield 33, 3) := by decide +kernel
theorem dX1_countMissingIn_9 : decode cX1_countMissingIn 9 = .ok (.if_icmp .ge 26, 3) := by decide +kernel
theorem dX1_countMissingIn_12 : decode cX1_countMissingIn 12 = .ok (.aload_n 1, 1) := by decide +kernel
theorem dX1_countMissingIn_13 : decode cX1_countMissingIn 13 = .ok (.aload_n 0, 1) := by decide +kernel
theorem dX1_countMissingIn_14 : decode cX1_countMissingIn 14 = .ok (.getfield 9, 3) := by decide +kernel
theorem dX1_countMissingIn_17 : decode cX1_countMissingIn 17 = .ok (.iload_n 3, 1) := by decide +kernel
theorem dX1_countMissingIn_18 : decode cX1_countMissingIn 18 = .ok (.iaload, 1) := by decide +kernel
theorem dX1_countMissingIn_19 : decode cX1_countMissingIn 19 = .ok (.invokevirtual 47, 3) := by decide +kernel
theorem dX1_countMissingIn_22 : decode cX1_countMissingIn 22 = .ok (.iconst (-1), 1) := by decide +kernel
theorem dX1_countMissingIn_23 : decode cX1_countMissingIn 23 = .ok (.if_icmp .ne 6, 3) := by decide +kernel
theorem dX1_countMissingIn_26 : decode cX1_countMissingIn 26 = .ok (.iinc 2 1, 3) := by decide +kernel
theorem dX1_countMissingIn_29 : decode cX1_countMissingIn 29 = .ok (.iinc 3 1, 3) := by decide +kernel
theorem dX1_countMissingIn_32 : decode cX1_countMissingIn 32 = .ok (.goto (-28), 3) := by decide +kernel
theorem dX1_countMissingIn_35 : decode cX1_countMissingIn 35 = .ok (.iload_n 2, 1) := by decide +kernel
theorem dX1_countMissingIn_36 : decode cX1_countMissingIn 36 = .ok (.ireturn, 1) := by decide +kernel
theorem dX1_hasPairsOf_0 : decode cX1_hasPairsOf 0 = .ok (.aload_n 0, 1) := by decide +kernel
theorem dX1_hasPairsOf_1 : decode cX1_hasPairsOf 1 = .ok (.getfield 33, 3) := by decide +kernel
theorem dX1_hasPairsOf_4 : decode cX1_hasPairsOf 4 = .ok (.aload_n 1, 1) := by decide +kernel
theorem dX1_hasPairsOf_5 : decode cX1_hasPairsOf 5 = .ok (.getfield 33, 3) := by decide +kernel
theorem dX1_hasPairsOf_8 : decode cX1_hasPairsOf 8 = .ok (.if_icmp .eq 5, 3) := by decide +kernel
theorem dX1_hasPairsOf_11 : decode cX1_hasPairsOf 11 = .ok (.iconst 0, 1) := by decide +kernel
theorem dX1_hasPairsOf_12 : decode cX1_hasPairsOf 12 = .ok (.ireturn, 1) := by decide +kernel
theorem dX1_hasPairsOf_13 : decode cX1_hasPairsOf 13 = .ok (.iconst 0, 1) := by decide +kernel
theorem dX1_hasPairsOf_14 : decode cX1_hasPairsOf 14 = .ok (.istore_n 2, 1) := by decide +kernel
theorem dX1_hasPairsOf_15 : decode cX1_hasPairsOf 15 = .ok (.iload_n 2, 1) := by decide +kernel
theorem dX1_hasPairsOf_16 : decode cX1_hasPairsOf 16 = .ok (.aload_n 0, 1) := by decide +kernel
theorem dX1_hasPairsOf_17 : decode cX1_hasPairsOf 17 = .ok (.getfield 33, 3) := by decide +kernel
theorem dX1_hasPairsOf_20 : decode cX1_hasPairsOf 20 = .ok (.if_icmp .ge 41, 3) := by decide +kernel
theorem dX1_hasPairsOf_23 : decode cX1_hasPairsOf 23 = .ok (.aload_n 1, 1) := by decide +kernel
theorem dX1_hasPairsOf_24 : decode cX1_hasPairsOf 24 = .ok (.aload_n 0, 1) := by decide +kernel
theorem dX1_hasPairsOf_25 : decode cX1_hasPairsOf 25 = .ok (.getfield 9, 3) := by decide +kernel
theorem dX1_hasPairsOf_28 : decode cX1_hasPairsOf 28 = .ok (.iload_n 2, 1) := by decide +kernel
theorem dX1_hasPairsOf_29 : decode cX1_hasPairsOf 29 = .ok (.iaload, 1) := by decide +kernel
theorem dX1_hasPairsOf_30 : decode cX1_hasPairsOf 30 = .ok (.invokevirtual 47, 3) := by decide +kernel
theorem dX1_hasPairsOf_33 : decode cX1_hasPairsOf 33 = .ok (.istore_n 3, 1) := by decide +kernel
theorem dX1_hasPairsOf_34 : decode cX1_hasPairsOf 34 = .ok (.iload_n 3, 1) := by decide +kernel
theorem dX1_hasPairsOf_35 : decode cX1_hasPairsOf 35 = .ok (.iconst (-1), 1) := by decide +kernel
theorem dX1_hasPairsOf_36 : decode cX1_hasPairsOf 36 = .ok (.if_icmp .eq 17, 3) := by decide +kernel
theorem dX1_hasPairsOf_39 : decode cX1_hasPairsOf 39 = .ok (.aload_n 1, 1) := by decide +kernel
theorem dX1_hasPairsOf_40 : decode cX1_hasPairsOf 40 = .ok (.iload_n 3, 1) := by decide +kernel
theorem dX1_hasPairsOf_41 : decode cX1_hasPairsOf 41 = .ok (.invokevirtual 67, 3) := by decide +kernel
theorem dX1_hasPairsOf_44 : decode cX1_hasPairsOf 44 = .ok (.aload_n 0, 1) := by decide +kernel
theorem dX1_hasPairsOf_45 : decode cX1_hasPairsOf 45 = .ok (.getfield 15, 3) := by decide +kernel
theorem dX1_hasPairsOf_48 : decode cX1_hasPairsOf 48 = .ok (.iload_n 2, 1) := by decide +kernel
theorem dX1_hasPairsOf_49 : decode cX1_hasPairsOf 49 = .ok (.iaload, 1) := by decide +kernel
theorem dX1_hasPairsOf_50 : decode cX1_hasPairsOf 50 = .ok (.if_icmp .eq 5, 3) := by decide +kernel
theorem dX1_hasPairsOf_53 : decode cX1_hasPairsOf 53 = .ok (.iconst 0, 1) := by decide +kernel
theorem dX1_hasPairsOf_54 : decode cX1_hasPairsOf 54 = .ok (.ireturn, 1) := by decide +kernel
theorem dX1_hasPairsOf_55 : decode cX1_hasPairsOf 55 = .ok (.iinc 2 1, 3) := by decide +kernel
theorem dX1_hasPairsOf_58 : decode cX1_hasPairsOf 58 = .ok (.goto (-43), 3) := by decide +kernel
theorem dX1_hasPairsOf_61 : decode cX1_hasPairsOf 61 = .ok (.iconst 1, 1) := by decide +kernel
theorem dX1_hasPairsOf_62 : decode cX1_hasPairsOf 62 = .ok (.ireturn, 1) := by decide +kernel
theorem dX1_hasRowOf_0 : decode cX1_hasRowOf 0 = .ok (.aload_n 0, 1) := by decide +kernel
theorem dX1_hasRowOf_1 : decode cX1_hasRowOf 1 = .ok (.getfield 33, 3) := by decide +kernel
theorem dX1_hasRowOf_4 : decode cX1_hasRowOf 4 = .ok (.aload_n 1, 1) := by decide +kernel
theorem dX1_hasRowOf_5 : decode cX1_hasRowOf 5 = .ok (.getfield 33, 3) := by decide +kernel
theorem dX1_hasRowOf_8 : decode cX1_hasRowOf 8 = .ok (.if_icmp .eq 5, 3) := by decide +kernel
theorem dX1_hasRowOf_11 : decode cX1_hasRowOf 11 = .ok (.iconst 0, 1) := by decide +kernel
theorem dX1_hasRowOf_12 : decode cX1_hasRowOf 12 = .ok (.ireturn, 1) := by decide +kernel
theorem dX1_hasRowOf_13 : decode cX1_hasRowOf 13 = .ok (.iconst 0, 1) := by decide +kernel
theorem dX1_hasRowOf_14 : decode cX1_hasRowOf 14 = .ok (.istore_n 2, 1) := by decide +kernel
theorem dX1_hasRowOf_15 : decode cX1_hasRowOf 15 = .ok (.iload_n 2, 1) := by decide +kernel
theorem dX1_hasRowOf_16 : decode cX1_hasRowOf 16 = .ok (.aload_n 0, 1) := by decide +kernel
theorem dX1_hasRowOf_17 : decode cX1_hasRowOf 17 = .ok (.getfield 33, 3) := by decide +kernel
theorem dX1_hasRowOf_20 : decode cX1_hasRowOf 20 = .ok (.if_icmp .ge 39, 3) := by decide +kernel
theorem dX1_hasRowOf_23 : decode cX1_hasRowOf 23 = .ok (.aload_n 0, 1) := by decide +kernel
theorem dX1_hasRowOf_24 : decode cX1_hasRowOf 24 = .ok (.getfield 9, 3) := by decide +kernel
theorem dX1_hasRowOf_27 : decode cX1_hasRowOf 27 = .ok (.iload_n 2, 1) := by decide +kernel
theorem dX1_hasRowOf_28 : decode cX1_hasRowOf 28 = .ok (.iaload, 1) := by decide +kernel
theorem dX1_hasRowOf_29 : decode cX1_hasRowOf 29 = .ok (.aload_n 1, 1) := by decide +kernel
theorem dX1_hasRowOf_30 : decode cX1_hasRowOf 30 = .ok (.iload_n 2, 1) := by decide +kernel
theorem dX1_hasRowOf_31 : decode cX1_hasRowOf 31 = .ok (.invokevirtual 64, 3) := by decide +kernel
theorem dX1_hasRowOf_34 : decode cX1_hasRowOf 34 = .ok (.if_icmp .ne 17, 3) := by decide +kernel
theorem dX1_hasRowOf_37 : decode cX1_hasRowOf 37 = .ok (.aload_n 0, 1) := by decide +kernel
theorem dX1_hasRowOf_38 : decode cX1_hasRowOf 38 = .ok (.getfield 15, 3) := by decide +kernel
theorem dX1_hasRowOf_41 : decode cX1_hasRowOf 41 = .ok (.iload_n 2, 1) := by decide +kernel
theorem dX1_hasRowOf_42 : decode cX1_hasRowOf 42 = .ok (.iaload, 1) := by decide +kernel
theorem dX1_hasRowOf_43 : decode cX1_hasRowOf 43 = .ok (.aload_n 1, 1) := by decide +kernel
theorem dX1_hasRowOf_44 : decode cX1_hasRowOf 44 = .ok (.iload_n 2, 1) := by decide +kernel
theorem dX1_hasRowOf_45 : decode cX1_hasRowOf 45 = .ok (.invokevirtual 67, 3) := by decide +kernel
theorem dX1_hasRowOf_48 : decode cX1_hasRowOf 48 = .ok (.if_icmp .eq 5, 3) := by decide +kernel
theorem dX1_hasRowOf_51 : decode cX1_hasRowOf 51 = .ok (.iconst 0, 1) := by decide +kernel
theorem dX1_hasRowOf_52 : decode cX1_hasRowOf 52 = .ok (.ireturn, 1) := by decide +kernel
theorem dX1_hasRowOf_53 : decode cX1_hasRowOf 53 = .ok (.iinc 2 1, 3) := by decide +kernel
theorem dX1_hasRowOf_56 : decode cX1_hasRowOf 56 = .ok (.goto (-41), 3) := by decide +kernel
theorem dX1_hasRowOf_59 : decode cX1_hasRowOf 59 = .ok (.iconst 1, 1) := by decide +kernel
theorem dX1_hasRowOf_60 : decode cX1_hasRowOf 60 = .ok (.ireturn, 1) := by decide +kernel
theorem dX1_mixed_0 : decode cX1_mixed 0 = .ok (.iconst 0, 1) := by decide +kernel
theorem dX1_mixed_1 : decode cX1_mixed 1 = .ok (.istore_n 1, 1) := by decide +kernel
theorem dX1_mixed_2 : decode cX1_mixed 2 = .ok (.iconst 0, 1) := by decide +kernel
theorem dX1_mixed_3 : decode cX1_mixed 3 = .ok (.istore_n 2, 1) := by decide +kernel
theorem dX1_mixed_4 : decode cX1_mixed 4 = .ok (.iload_n 2, 1) := by decide +kernel
theorem dX1_mixed_5 : decode cX1_mixed 5 = .ok (.aload_n 0, 1) := by decide +kernel
theorem dX1_mixed_6 : decode cX1_mixed 6 = .ok (.getfield 33, 3) := by decide +kernel
theorem dX1_mixed_9 : decode cX1_mixed 9 = .ok (.if_icmp .ge 25, 3) := by decide +kernel
theorem dX1_mixed_12 : decode cX1_mixed 12 = .ok (.iload_n 1, 1) := by decide +kernel
theorem dX1_mixed_13 : decode cX1_mixed 13 = .ok (.aload_n 0, 1) := by decide +kernel
theorem dX1_mixed_14 : decode cX1_mixed 14 = .ok (.getfield 9, 3) := by decide +kernel
theorem dX1_mixed_17 : decode cX1_mixed 17 = .ok (.iload_n 2, 1) := by decide +kernel
theorem dX1_mixed_18 : decode cX1_mixed 18 = .ok (.iaload, 1) := by decide +kernel
theorem dX1_mixed_19 : decode cX1_mixed 19 = .ok (.aload_n 0, 1) := by decide +kernel
theorem dX1_mixed_20 : decode cX1_mixed 20 = .ok (.getfield 15, 3) := by decide +kernel
theorem dX1_mixed_23 : decode cX1_mixed 23 = .ok (.iload_n 2, 1) := by decide +kernel
theorem dX1_mixed_24 : decode cX1_mixed 24 = .ok (.iaload, 1) := by decide +kernel
theorem dX1_mixed_25 : decode cX1_mixed 25 = .ok (.ixor, 1) := by decide +kernel
theorem dX1_mixed_26 : decode cX1_mixed 26 = .ok (.iadd, 1) := by decide +kernel
theorem dX1_mixed_27 : decode cX1_mixed 27 = .ok (.istore_n 1, 1) := by decide +kernel
theorem dX1_mixed_28 : decode cX1_mixed 28 = .ok (.iinc 2 1, 3) := by decide +kernel
theorem dX1_mixed_31 : decode cX1_mixed 31 = .ok (.goto (-27), 3) := by decide +kernel
theorem dX1_mixed_34 : decode cX1_mixed 34 = .ok (.iload_n 1, 1) := by decide +kernel
theorem dX1_mixed_35 : decode cX1_mixed 35 = .ok (.ireturn, 1) := by decide +kernel
theorem dX2_init_0 : decode cX2_init 0 = .ok (.aload_n 0, 1) := by decide +kernel
theorem dX2_init_1 : decode cX2_init 1 = .ok (.invokespecial 3, 3) := by decide +kernel
theorem dX2_init_4 : decode cX2_init 4 = .ok (.aload_n 0, 1) := by decide +kernel
theorem dX2_init_5 : decode cX2_init 5 = .ok (.iconst (-1), 1) := by decide +kernel
theorem dX2_init_6 : decode cX2_init 6 = .ok (.putfield 9, 3) := by decide +kernel
theorem dX2_init_9 : decode cX2_init 9 = .ok (.aload_n 0, 1) := by decide +kernel
theorem dX2_init_10 : decode cX2_init 10 = .ok (.iconst 0, 1) := by decide +kernel
theorem dX2_init_11 : decode cX2_init 11 = .ok (.putfield 15, 3) := by decide +kernel
theorem dX2_init_14 : decode cX2_init 14 = .ok (.return_, 1) := by decide +kernel
theorem dX2_openAt_0 : decode cX2_openAt 0 = .ok (.aload_n 0, 1) := by decide +kernel
theorem dX2_openAt_1 : decode cX2_openAt 1 = .ok (.iload_n 1, 1) := by decide +kernel
theorem dX2_openAt_2 : decode cX2_openAt 2 = .ok (.putfield 9, 3) := by decide +kernel
theorem dX2_openAt_5 : decode cX2_openAt 5 = .ok (.aload_n 0, 1) := by decide +kernel
theorem dX2_openAt_6 : decode cX2_openAt 6 = .ok (.iload_n 2, 1) := by decide +kernel
theorem dX2_openAt_7 : decode cX2_openAt 7 = .ok (.putfield 15, 3) := by decide +kernel
theorem dX2_openAt_10 : decode cX2_openAt 10 = .ok (.aload_n 0, 1) := by decide +kernel
theorem dX2_openAt_11 : decode cX2_openAt 11 = .ok (.iconst 0, 1) := by decide +kernel
theorem dX2_openAt_12 : decode cX2_openAt 12 = .ok (.putfield 18, 3) := by decide +kernel
theorem dX2_openAt_15 : decode cX2_openAt 15 = .ok (.aload_n 0, 1) := by decide +kernel
theorem dX2_openAt_16 : decode cX2_openAt 16 = .ok (.iconst 0, 1) := by decide +kernel
theorem dX2_openAt_17 : decode cX2_openAt 17 = .ok (.putfield 21, 3) := by decide +kernel
theorem dX2_openAt_20 : decode cX2_openAt 20 = .ok (.return_, 1) := by decide +kernel
theorem dX2_close_0 : decode cX2_close 0 = .ok (.aload_n 0, 1) := by decide +kernel
theorem dX2_close_1 : decode cX2_close 1 = .ok (.iconst (-1), 1) := by decide +kernel
theorem dX2_close_2 : decode cX2_close 2 = .ok (.putfield 9, 3) := by decide +kernel
theorem dX2_close_5 : decode cX2_close 5 = .ok (.aload_n 0, 1) := by decide +kernel
theorem dX2_close_6 : decode cX2_close 6 = .ok (.iconst 0, 1) := by decide +kernel
theorem dX2_close_7 : decode cX2_close 7 = .ok (.putfield 21, 3) := by decide +kernel
theorem dX2_close_10 : decode cX2_close 10 = .ok (.return_, 1) := by decide +kernel
theorem dX2_lastPlace_0 : decode cX2_lastPlace 0 = .ok (.aload_n 0, 1) := by decide +kernel
theorem dX2_lastPlace_1 : decode cX2_lastPlace 1 = .ok (.getfield 18, 3) := by decide +kernel
theorem dX2_lastPlace_4 : decode cX2_lastPlace 4 = .ok (.iconst 1, 1) := by decide +kernel
theorem dX2_lastPlace_5 : decode cX2_lastPlace 5 = .ok (.isub, 1) := by decide +kernel
theorem dX2_lastPlace_6 : decode cX2_lastPlace 6 = .ok (.ireturn, 1) := by decide +kernel
theorem dX2_goOn_0 : decode cX2_goOn 0 = .ok (.aload_n 0, 1) := by decide +kernel
theorem dX2_goOn_1 : decode cX2_goOn 1 = .ok (.dup, 1) := by decide +kernel
theorem dX2_goOn_2 : decode cX2_goOn 2 = .ok (.getfield 18, 3) := by decide +kernel
theorem dX2_goOn_5 : decode cX2_goOn 5 = .ok (.iconst 1, 1) := by decide +kernel
theorem dX2_goOn_6 : decode cX2_goOn 6 = .ok (.iadd, 1) := by decide +kernel
theorem dX2_goOn_7 : decode cX2_goOn 7 = .ok (.putfield 18, 3) := by decide +kernel
theorem dX2_goOn_10 : decode cX2_goOn 10 = .ok (.aload_n 0, 1) := by decide +kernel
theorem dX2_goOn_11 : decode cX2_goOn 11 = .ok (.iconst 1, 1) := by decide +kernel
theorem dX2_goOn_12 : decode cX2_goOn 12 = .ok (.putfield 21, 3) := by decide +kernel
theorem dX2_goOn_15 : decode cX2_goOn 15 = .ok (.return_, 1) := by decide +kernel
theorem dX2_stepBack_0 : decode cX2_stepBack 0 = .ok (.aload_n 0, 1) := by decide +kernel
theorem dX2_stepBack_1 : decode cX2_stepBack 1 = .ok (.dup, 1) := by decide +kernel
theorem dX2_stepBack_2 : decode cX2_stepBack 2 = .ok (.getfield 18, 3) := by decide +kernel
theorem dX2_stepBack_5 : decode cX2_stepBack 5 = .ok (.iconst 1, 1) := by decide +kernel
theorem dX2_stepBack_6 : decode cX2_stepBack 6 = .ok (.isub, 1) := by decide +kernel
theorem dX2_stepBack_7 : decode cX2_stepBack 7 = .ok (.putfield 18, 3) := by decide +kernel
theorem dX2_stepBack_10 : decode cX2_stepBack 10 = .ok (.aload_n 0, 1) := by decide +kernel
theorem dX2_stepBack_11 : decode cX2_stepBack 11 = .ok (.iconst 0, 1) := by decide +kernel
theorem dX2_stepBack_12 : decode cX2_stepBack 12 = .ok (.putfield 21, 3) := by decide +kernel
theorem dX2_stepBack_15 : decode cX2_stepBack 15 = .ok (.return_, 1) := by decide +kernel
theorem dX3_init_0 : decode cX3_init 0 = .ok (.aload_n 0, 1) := by decide +kernel
theorem dX3_init_1 : decode cX3_init 1 = .ok (.invokespecial 3, 3) := by decide +kernel
theorem dX3_init_4 : decode cX3_init 4 = .ok (.aload_n 0, 1) := by decide +kernel
theorem dX3_init_5 : decode cX3_init 5 = .ok (.sipush 5000, 3) := by decide +kernel
theorem dX3_init_8 : decode cX3_init 8 = .ok (.newarray .char, 2) := by decide +kernel
theorem dX3_init_10 : decode cX3_init 10 = .ok (.putfield 9, 3) := by decide +kernel
theorem dX3_init_13 : decode cX3_init 13 = .ok (.return_, 1) := by decide +kernel
theorem dX3_reaches_0 : decode cX3_reaches 0 = .ok (.iload_n 1, 1) := by decide +kernel
theorem dX3_reaches_1 : decode cX3_reaches 1 = .ok (.ifCond .lt 15, 3) := by decide +kernel
theorem dX3_reaches_4 : decode cX3_reaches 4 = .ok (.iload_n 1, 1) := by decide +kernel
theorem dX3_reaches_5 : decode cX3_reaches 5 = .ok (.aload_n 0, 1) := by decide +kernel
theorem dX3_reaches_6 : decode cX3_reaches 6 = .ok (.getfield 15, 3) := by decide +kernel
theorem dX3_reaches_9 : decode cX3_reaches 9 = .ok (.if_icmp .ge 7, 3) := by decide +kernel
theorem dX3_reaches_12 : decode cX3_reaches 12 = .ok (.iconst 1, 1) := by decide +kernel
theorem dX3_reaches_13 : decode cX3_reaches 13 = .ok (.goto 4, 3) := by decide +kernel
theorem dX3_reaches_16 : decode cX3_reaches 16 = .ok (.iconst 0, 1) := by decide +kernel
theorem dX3_reaches_17 : decode cX3_reaches 17 = .ok (.ireturn, 1) := by decide +kernel
theorem dX3_signOn_0 : decode cX3_signOn 0 = .ok (.aload_n 0, 1) := by decide +kernel
theorem dX3_signOn_1 : decode cX3_signOn 1 = .ok (.iload_n 1, 1) := by decide +kernel
theorem dX3_signOn_2 : decode cX3_signOn 2 = .ok (.invokevirtual 19, 3) := by decide +kernel
theorem dX3_signOn_5 : decode cX3_signOn 5 = .ok (.ifCond .eq 12, 3) := by decide +kernel
theorem dX3_signOn_8 : decode cX3_signOn 8 = .ok (.aload_n 0, 1) := by decide +kernel
theorem dX3_signOn_9 : decode cX3_signOn 9 = .ok (.getfield 9, 3) := by decide +kernel
theorem dX3_signOn_12 : decode cX3_signOn 12 = .ok (.iload_n 1, 1) := by decide +kernel
theorem dX3_signOn_13 : decode cX3_signOn 13 = .ok (.caload, 1) := by decide +kernel
theorem dX3_signOn_14 : decode cX3_signOn 14 = .ok (.goto 4, 3) := by decide +kernel
theorem dX3_signOn_17 : decode cX3_signOn 17 = .ok (.iconst (-1), 1) := by decide +kernel
theorem dX3_signOn_18 : decode cX3_signOn 18 = .ok (.ireturn, 1) := by decide +kernel
theorem dX3_startAnew_0 : decode cX3_startAnew 0 = .ok (.aload_n 0, 1) := by decide +kernel
theorem dX3_startAnew_1 : decode cX3_startAnew 1 = .ok (.iconst 0, 1) := by decide +kernel
theorem dX3_startAnew_2 : decode cX3_startAnew 2 = .ok (.putfield 15, 3) := by decide +kernel
theorem dX3_startAnew_5 : decode cX3_startAnew 5 = .ok (.return_, 1) := by decide +kernel
theorem dX3_append_0 : decode cX3_append 0 = .ok (.aload_n 0, 1) := by decide +kernel
theorem dX3_append_1 : decode cX3_append 1 = .ok (.getfield 15, 3) := by decide +kernel
theorem dX3_append_4 : decode cX3_append 4 = .ok (.sipush 5000, 3) := by decide +kernel
theorem dX3_append_7 : decode cX3_append 7 = .ok (.if_icmp .ge 23, 3) := by decide +kernel
theorem dX3_append_10 : decode cX3_append 10 = .ok (.aload_n 0, 1) := by decide +kernel
theorem dX3_append_11 : decode cX3_append 11 = .ok (.getfield 9, 3) := by decide +kernel
theorem dX3_append_14 : decode cX3_append 14 = .ok (.aload_n 0, 1) := by decide +kernel
theorem dX3_append_15 : decode cX3_append 15 = .ok (.getfield 15, 3) := by decide +kernel
theorem dX3_append_18 : decode cX3_append 18 = .ok (.iload_n 1, 1) := by decide +kernel
theorem dX3_append_19 : decode cX3_append 19 = .ok (.castore, 1) := by decide +kernel
theorem dX3_append_20 : decode cX3_append 20 = .ok (.aload_n 0, 1) := by decide +kernel
theorem dX3_append_21 : decode cX3_append 21 = .ok (.dup, 1) := by decide +kernel
theorem dX3_append_22 : decode cX3_append 22 = .ok (.getfield 15, 3) := by decide +kernel
theorem dX3_append_25 : decode cX3_append 25 = .ok (.iconst 1, 1) := by decide +kernel
theorem dX3_append_26 : decode cX3_append 26 = .ok (.iadd, 1) := by decide +kernel
theorem dX3_append_27 : decode cX3_append 27 = .ok (.putfield 15, 3) := by decide +kernel
theorem dX3_append_30 : decode cX3_append 30 = .ok (.return_, 1) := by decide +kernel
theorem dX3_appendNumber_0 : decode cX3_appendNumber 0 = .ok (.iload_n 1, 1) := by decide +kernel
theorem dX3_appendNumber_1 : decode cX3_appendNumber 1 = .ok (.i2l, 1) := by decide +kernel
theorem dX3_appendNumber_2 : decode cX3_appendNumber 2 = .ok (.invokestatic 23, 3) := by decide +kernel
theorem dX3_appendNumber_5 : decode cX3_appendNumber 5 = .ok (.lstore_n 2, 1) := by decide +kernel
theorem dX3_appendNumber_6 : decode cX3_appendNumber 6 = .ok (.iload_n 1, 1) := by decide +kernel
theorem dX3_appendNumber_7 : decode cX3_appendNumber 7 = .ok (.ifCond .ge 9, 3) := by decide +kernel
theorem dX3_appendNumber_10 : decode cX3_appendNumber 10 = .ok (.aload_n 0, 1) := by decide +kernel
theorem dX3_appendNumber_11 : decode cX3_appendNumber 11 = .ok (.bipush 45, 2) := by decide +kernel
theorem dX3_appendNumber_13 : decode cX3_appendNumber 13 = .ok (.invokevirtual 29, 3) := by decide +kernel
theorem dX3_appendNumber_16 : decode cX3_appendNumber 16 = .ok (.ldc2_w 33, 3) := by decide +kernel
theorem dX3_appendNumber_19 : decode cX3_appendNumber 19 = .ok (.lstore 4, 2) := by decide +kernel
theorem dX3_appendNumber_21 : decode cX3_appendNumber 21 = .ok (.lload 4, 2) := by decide +kernel
theorem dX3_appendNumber_23 : decode cX3_appendNumber 23 = .ok (.lconst 0, 1) := by decide +kernel
theorem dX3_appendNumber_24 : decode cX3_appendNumber 24 = .ok (.lcmp, 1) := by decide +kernel
theorem dX3_appendNumber_25 : decode cX3_appendNumber 25 = .ok (.ifCond .le 46, 3) := by decide +kernel
theorem dX3_appendNumber_28 : decode cX3_appendNumber 28 = .ok (.lload 4, 2) := by decide +kernel
theorem dX3_appendNumber_30 : decode cX3_appendNumber 30 = .ok (.lload_n 2, 1) := by decide +kernel
theorem dX3_appendNumber_31 : decode cX3_appendNumber 31 = .ok (.lcmp, 1) := by decide +kernel
theorem dX3_appendNumber_32 : decode cX3_appendNumber 32 = .ok (.ifCond .le 10, 3) := by decide +kernel
theorem dX3_appendNumber_35 : decode cX3_appendNumber 35 = .ok (.lload 4, 2) := by decide +kernel
theorem dX3_appendNumber_37 : decode cX3_appendNumber 37 = .ok (.lconst 1, 1) := by decide +kernel
theorem dX3_appendNumber_38 : decode cX3_appendNumber 38 = .ok (.lcmp, 1) := by decide +kernel
theorem dX3_appendNumber_39 : decode cX3_appendNumber 39 = .ok (.ifCond .ne 21, 3) := by decide +kernel
theorem dX3_appendNumber_42 : decode cX3_appendNumber 42 = .ok (.aload_n 0, 1) := by decide +kernel
theorem dX3_appendNumber_43 : decode cX3_appendNumber 43 = .ok (.ldc2_w 35, 3) := by decide +kernel
theorem dX3_appendNumber_46 : decode cX3_appendNumber 46 = .ok (.lload_n 2, 1) := by decide +kernel
theorem dX3_appendNumber_47 : decode cX3_appendNumber 47 = .ok (.lload 4, 2) := by decide +kernel
theorem dX3_appendNumber_49 : decode cX3_appendNumber 49 = .ok (.ldiv, 1) := by decide +kernel
theorem dX3_appendNumber_50 : decode cX3_appendNumber 50 = .ok (.ldc2_w 37, 3) := by decide +kernel
theorem dX3_appendNumber_53 : decode cX3_appendNumber 53 = .ok (.lrem, 1) := by decide +kernel
theorem dX3_appendNumber_54 : decode cX3_appendNumber 54 = .ok (.ladd, 1) := by decide +kernel
theorem dX3_appendNumber_55 : decode cX3_appendNumber 55 = .ok (.l2i, 1) := by decide +kernel
theorem dX3_appendNumber_56 : decode cX3_appendNumber 56 = .ok (.i2c, 1) := by decide +kernel
theorem dX3_appendNumber_57 : decode cX3_appendNumber 57 = .ok (.invokevirtual 29, 3) := by decide +kernel
theorem dX3_appendNumber_60 : decode cX3_appendNumber 60 = .ok (.lload 4, 2) := by decide +kernel
theorem dX3_appendNumber_62 : decode cX3_appendNumber 62 = .ok (.ldc2_w 37, 3) := by decide +kernel
theorem dX3_appendNumber_65 : decode cX3_appendNumber 65 = .ok (.ldiv, 1) := by decide +kernel
theorem dX3_appendNumber_66 : decode cX3_appendNumber 66 = .ok (.lstore 4, 2) := by decide +kernel
theorem dX3_appendNumber_68 : decode cX3_appendNumber 68 = .ok (.goto (-47), 3) := by decide +kernel
theorem dX3_appendNumber_71 : decode cX3_appendNumber 71 = .ok (.return_, 1) := by decide +kernel
theorem dX4_init_0 : decode cX4_init 0 = .ok (.aload_n 0, 1) := by decide +kernel
theorem dX4_init_1 : decode cX4_init 1 = .ok (.invokespecial 3, 3) := by decide +kernel
theorem dX4_init_4 : decode cX4_init 4 = .ok (.aload_n 0, 1) := by decide +kernel
theorem dX4_init_5 : decode cX4_init 5 = .ok (.new 9, 3) := by decide +kernel
theorem dX4_init_8 : decode cX4_init 8 = .ok (.dup, 1) := by decide +kernel
theorem dX4_init_9 : decode cX4_init 9 = .ok (.sipush 200, 3) := by decide +kernel
theorem dX4_init_12 : decode cX4_init 12 = .ok (.iconst 0, 1) := by decide +kernel
theorem dX4_init_13 : decode cX4_init 13 = .ok (.invokespecial 11, 3) := by decide +kernel
theorem dX4_init_16 : decode cX4_init 16 = .ok (.putfield 14, 3) := by decide +kernel
theorem dX4_init_19 : decode cX4_init 19 = .ok (.aload_n 0, 1) := by decide +kernel
theorem dX4_init_20 : decode cX4_init 20 = .ok (.new 9, 3) := by decide +kernel
theorem dX4_init_23 : decode cX4_init 23 = .ok (.dup, 1) := by decide +kernel
theorem dX4_init_24 : decode cX4_init 24 = .ok (.sipush 200, 3) := by decide +kernel
theorem dX4_init_27 : decode cX4_init 27 = .ok (.iconst 0, 1) := by decide +kernel
theorem dX4_init_28 : decode cX4_init 28 = .ok (.invokespecial 11, 3) := by decide +kernel
theorem dX4_init_31 : decode cX4_init 31 = .ok (.putfield 18, 3) := by decide +kernel
theorem dX4_init_34 : decode cX4_init 34 = .ok (.aload_n 0, 1) := by decide +kernel
theorem dX4_init_35 : decode cX4_init 35 = .ok (.new 9, 3) := by decide +kernel
theorem dX4_init_38 : decode cX4_init 38 = .ok (.dup, 1) := by decide +kernel
theorem dX4_init_39 : decode cX4_init 39 = .ok (.bipush 8, 2) := by decide +kernel
theorem dX4_init_41 : decode cX4_init 41 = .ok (.iconst 1, 1) := by decide +kernel
theorem dX4_init_42 : decode cX4_init 42 = .ok (.invokespecial 11, 3) := by decide +kernel
theorem dX4_init_45 : decode cX4_init 45 = .ok (.putfield 21, 3) := by decide +kernel
theorem dX4_init_48 : decode cX4_init 48 = .ok (.aload_n 0, 1) := by decide +kernel
theorem dX4_init_49 : decode cX4_init 49 = .ok (.new 9, 3) := by decide +kernel
theorem dX4_init_52 : decode cX4_init 52 = .ok (.dup, 1) := by decide +kernel
theorem dX4_init_53 : decode cX4_init 53 = .ok (.sipush 200, 3) := by decide +kernel
theorem dX4_init_56 : decode cX4_init 56 = .ok (.iconst 0, 1) := by decide +kernel
theorem dX4_init_57 : decode cX4_init 57 = .ok (.invokespecial 11, 3) := by decide +kernel
theorem dX4_init_60 : decode cX4_init 60 = .ok (.putfield 24, 3) := by decide +kernel
theorem dX4_init_63 : decode cX4_init 63 = .ok (.aload_n 0, 1) := by decide +kernel
theorem dX4_init_64 : decode cX4_init 64 = .ok (.new 9, 3) := by decide +kernel
theorem dX4_init_67 : decode cX4_init 67 = .ok (.dup, 1) := by decide +kernel
theorem dX4_init_68 : decode cX4_init 68 = .ok (.sipush 200, 3) := by decide +kernel
theorem dX4_init_71 : decode cX4_init 71 = .ok (.iconst 0, 1) := by decide +kernel
theorem dX4_init_72 : decode cX4_init 72 = .ok (.invokespecial 11, 3) := by decide +kernel
theorem dX4_init_75 : decode cX4_init 75 = .ok (.putfield 27, 3) := by decide +kernel
theorem dX4_init_78 : decode cX4_init 78 = .ok (.aload_n 0, 1) := by decide +kernel
theorem dX4_init_79 : decode cX4_init 79 = .ok (.new 30, 3) := by decide +kernel
theorem dX4_init_82 : decode cX4_init 82 = .ok (.dup, 1) := by decide +kernel
theorem dX4_init_83 : decode cX4_init 83 = .ok (.invokespecial 32, 3) := by decide +kernel
theorem dX4_init_86 : decode cX4_init 86 = .ok (.putfield 33, 3) := by decide +kernel
theorem dX4_init_89 : decode cX4_init 89 = .ok (.aload_n 0, 1) := by decide +kernel
theorem dX4_init_90 : decode cX4_init 90 = .ok (.new 30, 3) := by decide +kernel
theorem dX4_init_93 : decode cX4_init 93 = .ok (.dup, 1) := by decide +kernel
theorem dX4_init_94 : decode cX4_init 94 = .ok (.invokespecial 32, 3) := by decide +kernel
theorem dX4_init_97 : decode cX4_init 97 = .ok (.putfield 37, 3) := by decide +kernel
theorem dX4_init_100 : decode cX4_init 100 = .ok (.aload_n 0, 1) := by decide +kernel
theorem dX4_init_101 : decode cX4_init 101 = .ok (.new 30, 3) := by decide +kernel
theorem dX4_init_104 : decode cX4_init 104 = .ok (.dup, 1) := by decide +kernel
theorem dX4_init_105 : decode cX4_init 105 = .ok (.invokespecial 32, 3) := by decide +kernel
theorem dX4_init_108 : decode cX4_init 108 = .ok (.putfield 40, 3) := by decide +kernel
theorem dX4_init_111 : decode cX4_init 111 = .ok (.aload_n 0, 1) := by decide +kernel
theorem dX4_init_112 : decode cX4_init 112 = .ok (.new 43, 3) := by decide +kernel
theorem dX4_init_115 : decode cX4_init 115 = .ok (.dup, 1) := by decide +kernel
theorem dX4_init_116 : decode cX4_init 116 = .ok (.invokespecial 45, 3) := by decide +kernel
theorem dX4_init_119 : decode cX4_init 119 = .ok (.putfield 46, 3) := by decide +kernel
theorem dX4_init_122 : decode cX4_init 122 = .ok (.return_, 1) := by decide +kernel
theorem dX4_rebind_0 : decode cX4_rebind 0 = .ok (.iload_n 1, 1) := by decide +kernel
theorem dX4_rebind_1 : decode cX4_rebind 1 = .ok (.iconst 1, 1) := by decide +kernel
theorem dX4_rebind_2 : decode cX4_rebind 2 = .ok (.if_icmp .lt 9, 3) := by decide +kernel
theorem dX4_rebind_5 : decode cX4_rebind 5 = .ok (.iload_n 1, 1) := by decide +kernel
theorem dX4_rebind_6 : decode cX4_rebind 6 = .ok (.bipush 40, 2) := by decide +kernel
theorem dX4_rebind_8 : decode cX4_rebind 8 = .ok (.if_icmp .le 13, 3) := by decide +kernel
theorem dX4_rebind_11 : decode cX4_rebind 11 = .ok (.new 50, 3) := by decide +kernel
theorem dX4_rebind_14 : decode cX4_rebind 14 = .ok (.dup, 1) := by decide +kernel
theorem dX4_rebind_15 : decode cX4_rebind 15 = .ok (.ldc 52, 2) := by decide +kernel
theorem dX4_rebind_17 : decode cX4_rebind 17 = .ok (.invokespecial 54, 3) := by decide +kernel
theorem dX4_rebind_20 : decode cX4_rebind 20 = .ok (.athrow, 1) := by decide +kernel
theorem dX4_rebind_21 : decode cX4_rebind 21 = .ok (.aload_n 0, 1) := by decide +kernel
theorem dX4_rebind_22 : decode cX4_rebind 22 = .ok (.getfield 21, 3) := by decide +kernel
theorem dX4_rebind_25 : decode cX4_rebind 25 = .ok (.getfield 57, 3) := by decide +kernel
theorem dX4_rebind_28 : decode cX4_rebind 28 = .ok (.istore_n 2, 1) := by decide +kernel
theorem dX4_rebind_29 : decode cX4_rebind 29 = .ok (.aload_n 0, 1) := by decide +kernel
theorem dX4_rebind_30 : decode cX4_rebind 30 = .ok (.getfield 21, 3) := by decide +kernel
theorem dX4_rebind_33 : decode cX4_rebind 33 = .ok (.invokevirtual 61, 3) := by decide +kernel
theorem dX4_rebind_36 : decode cX4_rebind 36 = .ok (.aload_n 0, 1) := by decide +kernel
theorem dX4_rebind_37 : decode cX4_rebind 37 = .ok (.getfield 21, 3) := by decide +kernel
theorem dX4_rebind_40 : decode cX4_rebind 40 = .ok (.iload_n 1, 1) := by decide +kernel
theorem dX4_rebind_41 : decode cX4_rebind 41 = .ok (.putfield 64, 3) := by decide +kernel
theorem dX4_rebind_44 : decode cX4_rebind 44 = .ok (.aload_n 0, 1) := by decide +kernel
theorem dX4_rebind_45 : decode cX4_rebind 45 = .ok (.iconst 2, 1) := by decide +kernel
theorem dX4_rebind_46 : decode cX4_rebind 46 = .ok (.iconst (-1), 1) := by decide +kernel
theorem dX4_rebind_47 : decode cX4_rebind 47 = .ok (.invokevirtual 67, 3) := by decide +kernel
theorem dX4_rebind_50 : decode cX4_rebind 50 = .ok (.iload_n 2, 1) := by decide +kernel
theorem dX4_rebind_51 : decode cX4_rebind 51 = .ok (.ireturn, 1) := by decide +kernel
theorem dX4_put_0 : decode cX4_put 0 = .ok (.aload_n 0, 1) := by decide +kernel
theorem dX4_put_1 : decode cX4_put 1 = .ok (.iload_n 1, 1) := by decide +kernel
theorem dX4_put_2 : decode cX4_put 2 = .ok (.invokevirtual 71, 3) := by decide +kernel
theorem dX4_put_5 : decode cX4_put 5 = .ok (.astore 4, 2) := by decide +kernel
theorem dX4_put_7 : decode cX4_put 7 = .ok (.aload_n 0, 1) := by decide +kernel
theorem dX4_put_8 : decode cX4_put 8 = .ok (.aload 4, 2) := by decide +kernel
theorem dX4_put_10 : decode cX4_put 10 = .ok (.iload_n 2, 1) := by decide +kernel
theorem dX4_put_11 : decode cX4_put 11 = .ok (.invokevirtual 75, 3) := by decide +kernel
theorem dX4_put_14 : decode cX4_put 14 = .ok (.aload_n 0, 1) := by decide +kernel
theorem dX4_put_15 : decode cX4_put 15 = .ok (.iload_n 1, 1) := by decide +kernel
theorem dX4_put_16 : decode cX4_put 16 = .ok (.iconst (-1), 1) := by decide +kernel
theorem dX4_put_17 : decode cX4_put 17 = .ok (.invokevirtual 67, 3) := by decide +kernel
theorem dX4_put_20 : decode cX4_put 20 = .ok (.aload 4, 2) := by decide +kernel
theorem dX4_put_22 : decode cX4_put 22 = .ok (.iload_n 2, 1) := by decide +kernel
theorem dX4_put_23 : decode cX4_put 23 = .ok (.iload_n 3, 1) := by decide +kernel
theorem dX4_put_24 : decode cX4_put 24 = .ok (.invokevirtual 79, 3) := by decide +kernel
theorem dX4_put_27 : decode cX4_put 27 = .ok (.ireturn, 1) := by decide +kernel
theorem dX4_putNew_0 : decode cX4_putNew 0 = .ok (.aload_n 0, 1) := by decide +kernel
theorem dX4_putNew_1 : decode cX4_putNew 1 = .ok (.iload_n 1, 1) := by decide +kernel
theorem dX4_putNew_2 : decode cX4_putNew 2 = .ok (.invokevirtual 83, 3) := by decide +kernel
theorem dX4_putNew_5 : decode cX4_putNew 5 = .ok (.astore 4, 2) := by decide +kernel
theorem dX4_putNew_7 : decode cX4_putNew 7 = .ok (.aload_n 0, 1) := by decide +kernel
theorem dX4_putNew_8 : decode cX4_putNew 8 = .ok (.aload 4, 2) := by decide +kernel
theorem dX4_putNew_10 : decode cX4_putNew 10 = .ok (.iload_n 2, 1) := by decide +kernel
theorem dX4_putNew_11 : decode cX4_putNew 11 = .ok (.invokevirtual 75, 3) := by decide +kernel
theorem dX4_putNew_14 : decode cX4_putNew 14 = .ok (.aload_n 0, 1) := by decide +kernel
theorem dX4_putNew_15 : decode cX4_putNew 15 = .ok (.iload_n 1, 1) := by decide +kernel
theorem dX4_putNew_16 : decode cX4_putNew 16 = .ok (.iconst (-1), 1) := by decide +kernel
theorem dX4_putNew_17 : decode cX4_putNew 17 = .ok (.invokevirtual 67, 3) := by decide +kernel
theorem dX4_putNew_20 : decode cX4_putNew 20 = .ok (.aload 4, 2) := by decide +kernel
theorem dX4_putNew_22 : decode cX4_putNew 22 = .ok (.iload_n 2, 1) := by decide +kernel
theorem dX4_putNew_23 : decode cX4_putNew 23 = .ok (.invokevirtual 86, 3) := by decide +kernel
theorem dX4_putNew_26 : decode cX4_putNew 26 = .ok (.istore 5, 2) := by decide +kernel
theorem dX4_putNew_28 : decode cX4_putNew 28 = .ok (.iload 5, 2) := by decide +kernel
theorem dX4_putNew_30 : decode cX4_putNew 30 = .ok (.iconst (-1), 1) := by decide +kernel
theorem dX4_putNew_31 : decode cX4_putNew 31 = .ok (.if_icmp .ne 12, 3) := by decide +kernel
theorem dX4_putNew_34 : decode cX4_putNew 34 = .ok (.aload 4, 2) := by decide +kernel
theorem dX4_putNew_36 : decode cX4_putNew 36 = .ok (.iload_n 2, 1) := by decide +kernel
theorem dX4_putNew_37 : decode cX4_putNew 37 = .ok (.iload_n 3, 1) := by decide +kernel
theorem dX4_putNew_38 : decode cX4_putNew 38 = .ok (.invokevirtual 90, 3) := by decide +kernel
theorem dX4_putNew_41 : decode cX4_putNew 41 = .ok (.iload_n 3, 1) := by decide +kernel
theorem dX4_putNew_42 : decode cX4_putNew 42 = .ok (.ireturn, 1) := by decide +kernel
theorem dX4_putNew_43 : decode cX4_putNew 43 = .ok (.aload 4, 2) := by decide +kernel
theorem dX4_putNew_45 : decode cX4_putNew 45 = .ok (.iload 5, 2) := by decide +kernel
theorem dX4_putNew_47 : decode cX4_putNew 47 = .ok (.invokevirtual 93, 3) := by decide +kernel
theorem dX4_putNew_50 : decode cX4_putNew 50 = .ok (.ireturn, 1) := by decide +kernel
theorem dX4_add_0 : decode cX4_add 0 = .ok (.aload_n 0, 1) := by decide +kernel
theorem dX4_add_1 : decode cX4_add 1 = .ok (.iload_n 1, 1) := by decide +kernel
theorem dX4_add_2 : decode cX4_add 2 = .ok (.invokevirtual 83, 3) := by decide +kernel
theorem dX4_add_5 : decode cX4_add 5 = .ok (.astore 4, 2) := by decide +kernel
theorem dX4_add_7 : decode cX4_add 7 = .ok (.aload_n 0, 1) := by decide +kernel
theorem dX4_add_8 : decode cX4_add 8 = .ok (.aload 4, 2) := by decide +kernel
theorem dX4_add_10 : decode cX4_add 10 = .ok (.iload_n 2, 1) := by decide +kernel
theorem dX4_add_11 : decode cX4_add 11 = .ok (.invokevirtual 75, 3) := by decide +kernel
theorem dX4_add_14 : decode cX4_add 14 = .ok (.aload_n 0, 1) := by decide +kernel
theorem dX4_add_15 : decode cX4_add 15 = .ok (.iload_n 1, 1) := by decide +kernel
theorem dX4_add_16 : decode cX4_add 16 = .ok (.iconst (-1), 1) := by decide +kernel
theorem dX4_add_17 : decode cX4_add 17 = .ok (.invokevirtual 67, 3) := by decide +kernel
theorem dX4_add_20 : decode cX4_add 20 = .ok (.aload 4, 2) := by decide +kernel
theorem dX4_add_22 : decode cX4_add 22 = .ok (.iload_n 2, 1) := by decide +kernel
theorem dX4_add_23 : decode cX4_add 23 = .ok (.invokevirtual 86, 3) := by decide +kernel
theorem dX4_add_26 : decode cX4_add 26 = .ok (.istore 5, 2) := by decide +kernel
theorem dX4_add_28 : decode cX4_add 28 = .ok (.iload 5, 2) := by decide +kernel
theorem dX4_add_30 : decode cX4_add 30 = .ok (.iconst (-1), 1) := by decide +kernel
theorem dX4_add_31 : decode cX4_add 31 = .ok (.if_icmp .ne 7, 3) := by decide +kernel
theorem dX4_add_34 : decode cX4_add 34 = .ok (.iload_n 3, 1) := by decide +kernel
theorem dX4_add_35 : decode cX4_add 35 = .ok (.goto 12, 3) := by decide +kernel
theorem dX4_add_38 : decode cX4_add 38 = .ok (.aload 4, 2) := by decide +kernel
theorem dX4_add_40 : decode cX4_add 40 = .ok (.iload 5, 2) := by decide +kernel
theorem dX4_add_42 : decode cX4_add 42 = .ok (.invokevirtual 93, 3) := by decide +kernel
theorem dX4_add_45 : decode cX4_add 45 = .ok (.iload_n 3, 1) := by decide +kernel
theorem dX4_add_46 : decode cX4_add 46 = .ok (.iadd, 1) := by decide +kernel
theorem dX4_add_47 : decode cX4_add 47 = .ok (.istore 6, 2) := by decide +kernel
theorem dX4_add_49 : decode cX4_add 49 = .ok (.aload 4, 2) := by decide +kernel
theorem dX4_add_51 : decode cX4_add 51 = .ok (.iload_n 2, 1) := by decide +kernel
theorem dX4_add_52 : decode cX4_add 52 = .ok (.iload 6, 2) := by decide +kernel
theorem dX4_add_54 : decode cX4_add 54 = .ok (.invokevirtual 79, 3) := by decide +kernel
theorem dX4_add_57 : decode cX4_add 57 = .ok (.pop, 1) := by decide +kernel
theorem dX4_add_58 : decode cX4_add 58 = .ok (.iload 6, 2) := by decide +kernel
theorem dX4_add_60 : decode cX4_add 60 = .ok (.ireturn, 1) := by decide +kernel
theorem dX4_halve_0 : decode cX4_halve 0 = .ok (.aload_n 0, 1) := by decide +kernel
theorem dX4_halve_1 : decode cX4_halve 1 = .ok (.iload_n 1, 1) := by decide +kernel
theorem dX4_halve_2 : decode cX4_halve 2 = .ok (.invokevirtual 83, 3) := by decide +kernel
theorem dX4_halve_5 : decode cX4_halve 5 = .ok (.astore_n 3, 1) := by decide +kernel
theorem dX4_halve_6 : decode cX4_halve 6 = .ok (.aload_n 0, 1) := by decide +kernel
theorem dX4_halve_7 : decode cX4_halve 7 = .ok (.iload_n 1, 1) := by decide +kernel
theorem dX4_halve_8 : decode cX4_halve 8 = .ok (.iconst (-1), 1) := by decide +kernel
theorem dX4_halve_9 : decode cX4_halve 9 = .ok (.invokevirtual 67, 3) := by decide +kernel
theorem dX4_halve_12 : decode cX4_halve 12 = .ok (.aload_n 3, 1) := by decide +kernel
theorem dX4_halve_13 : decode cX4_halve 13 = .ok (.iload_n 2, 1) := by decide +kernel
theorem dX4_halve_14 : decode cX4_halve 14 = .ok (.invokevirtual 86, 3) := by decide +kernel
theorem dX4_halve_17 : decode cX4_halve 17 = .ok (.istore 4, 2) := by decide +kernel
theorem dX4_halve_19 : decode cX4_halve 19 = .ok (.iload 4, 2) := by decide +kernel
theorem dX4_halve_21 : decode cX4_halve 21 = .ok (.iconst (-1), 1) := by decide +kernel
theorem dX4_halve_22 : decode cX4_halve 22 = .ok (.if_icmp .ne 5, 3) := by decide +kernel
theorem dX4_halve_25 : decode cX4_halve 25 = .ok (.iconst 0, 1) := by decide +kernel
theorem dX4_halve_26 : decode cX4_halve 26 = .ok (.ireturn, 1) := by decide +kernel
theorem dX4_halve_27 : decode cX4_halve 27 = .ok (.aload_n 3, 1) := by decide +kernel
theorem dX4_halve_28 : decode cX4_halve 28 = .ok (.iload 4, 2) := by decide +kernel
theorem dX4_halve_30 : decode cX4_halve 30 = .ok (.invokevirtual 93, 3) := by decide +kernel
theorem dX4_halve_33 : decode cX4_halve 33 = .ok (.iconst 2, 1) := by decide +kernel
theorem dX4_halve_34 : decode cX4_halve 34 = .ok (.idiv, 1) := by decide +kernel
theorem dX4_halve_35 : decode cX4_halve 35 = .ok (.istore 5, 2) := by decide +kernel
theorem dX4_halve_37 : decode cX4_halve 37 = .ok (.iload 5, 2) := by decide +kernel
theorem dX4_halve_39 : decode cX4_halve 39 = .ok (.ifCond .ne 11, 3) := by decide +kernel
theorem dX4_halve_42 : decode cX4_halve 42 = .ok (.aload_n 3, 1) := by decide +kernel
theorem dX4_halve_43 : decode cX4_halve 43 = .ok (.iload 4, 2) := by decide +kernel
theorem dX4_halve_45 : decode cX4_halve 45 = .ok (.invokevirtual 96, 3) := by decide +kernel
theorem dX4_halve_48 : decode cX4_halve 48 = .ok (.iconst 0, 1) := by decide +kernel
theorem dX4_halve_49 : decode cX4_halve 49 = .ok (.ireturn, 1) := by decide +kernel
theorem dX4_halve_50 : decode cX4_halve 50 = .ok (.aload_n 3, 1) := by decide +kernel
theorem dX4_halve_51 : decode cX4_halve 51 = .ok (.iload 4, 2) := by decide +kernel
theorem dX4_halve_53 : decode cX4_halve 53 = .ok (.iload 5, 2) := by decide +kernel
theorem dX4_halve_55 : decode cX4_halve 55 = .ok (.invokevirtual 100, 3) := by decide +kernel
theorem dX4_halve_58 : decode cX4_halve 58 = .ok (.iconst 1, 1) := by decide +kernel
theorem dX4_halve_59 : decode cX4_halve 59 = .ok (.ireturn, 1) := by decide +kernel
theorem dX4_addToAll_0 : decode cX4_addToAll 0 = .ok (.aload_n 0, 1) := by decide +kernel
theorem dX4_addToAll_1 : decode cX4_addToAll 1 = .ok (.iload_n 1, 1) := by decide +kernel
theorem dX4_addToAll_2 : decode cX4_addToAll 2 = .ok (.invokevirtual 71, 3) := by decide +kernel
theorem dX4_addToAll_5 : decode cX4_addToAll 5 = .ok (.astore_n 3, 1) := by decide +kernel
theorem dX4_addToAll_6 : decode cX4_addToAll 6 = .ok (.aload_n 0, 1) := by decide +kernel
theorem dX4_addToAll_7 : decode cX4_addToAll 7 = .ok (.iload_n 1, 1) := by decide +kernel
theorem dX4_addToAll_8 : decode cX4_addToAll 8 = .ok (.iconst (-1), 1) := by decide +kernel
theorem dX4_addToAll_9 : decode cX4_addToAll 9 = .ok (.invokevirtual 67, 3) := by decide +kernel
theorem dX4_addToAll_12 : decode cX4_addToAll 12 = .ok (.iconst 0, 1) := by decide +kernel
theorem dX4_addToAll_13 : decode cX4_addToAll 13 = .ok (.istore 4, 2) := by decide +kernel
theorem dX4_addToAll_15 : decode cX4_addToAll 15 = .ok (.iload 4, 2) := by decide +kernel
theorem dX4_addToAll_17 : decode cX4_addToAll 17 = .ok (.aload_n 3, 1) := by decide +kernel
theorem dX4_addToAll_18 : decode cX4_addToAll 18 = .ok (.getfield 57, 3) := by decide +kernel
theorem dX4_addToAll_21 : decode cX4_addToAll 21 = .ok (.if_icmp .ge 23, 3) := by decide +kernel
theorem dX4_addToAll_24 : decode cX4_addToAll 24 = .ok (.aload_n 3, 1) := by decide +kernel
theorem dX4_addToAll_25 : decode cX4_addToAll 25 = .ok (.iload 4, 2) := by decide +kernel
theorem dX4_addToAll_27 : decode cX4_addToAll 27 = .ok (.aload_n 3, 1) := by decide +kernel
theorem dX4_addToAll_28 : decode cX4_addToAll 28 = .ok (.iload 4, 2) := by decide +kernel
theorem dX4_addToAll_30 : decode cX4_addToAll 30 = .ok (.invokevirtual 93, 3) := by decide +kernel
theorem dX4_addToAll_33 : decode cX4_addToAll 33 = .ok (.iload_n 2, 1) := by decide +kernel
theorem dX4_addToAll_34 : decode cX4_addToAll 34 = .ok (.iadd, 1) := by decide +kernel
theorem dX4_addToAll_35 : decode cX4_addToAll 35 = .ok (.invokevirtual 100, 3) := by decide +kernel
theorem dX4_addToAll_38 : decode cX4_addToAll 38 = .ok (.iinc 4 1, 3) := by decide +kernel
theorem dX4_addToAll_41 : decode cX4_addToAll 41 = .ok (.goto (-26), 3) := by decide +kernel
theorem dX4_addToAll_44 : decode cX4_addToAll 44 = .ok (.aload_n 3, 1) := by decide +kernel
theorem dX4_addToAll_45 : decode cX4_addToAll 45 = .ok (.getfield 57, 3) := by decide +kernel
theorem dX4_addToAll_48 : decode cX4_addToAll 48 = .ok (.ireturn, 1) := by decide +kernel
theorem dX4_replace_0 : decode cX4_replace 0 = .ok (.aload_n 0, 1) := by decide +kernel
theorem dX4_replace_1 : decode cX4_replace 1 = .ok (.iload_n 1, 1) := by decide +kernel
theorem dX4_replace_2 : decode cX4_replace 2 = .ok (.invokevirtual 71, 3) := by decide +kernel
theorem dX4_replace_5 : decode cX4_replace 5 = .ok (.astore 4, 2) := by decide +kernel
theorem dX4_replace_7 : decode cX4_replace 7 = .ok (.aload_n 0, 1) := by decide +kernel
theorem dX4_replace_8 : decode cX4_replace 8 = .ok (.iload_n 1, 1) := by decide +kernel
theorem dX4_replace_9 : decode cX4_replace 9 = .ok (.iconst (-1), 1) := by decide +kernel
theorem dX4_replace_10 : decode cX4_replace 10 = .ok (.invokevirtual 67, 3) := by decide +kernel
theorem dX4_replace_13 : decode cX4_replace 13 = .ok (.aload 4, 2) := by decide +kernel
theorem dX4_replace_15 : decode cX4_replace 15 = .ok (.iload_n 2, 1) := by decide +kernel
theorem dX4_replace_16 : decode cX4_replace 16 = .ok (.invokevirtual 86, 3) := by decide +kernel
theorem dX4_replace_19 : decode cX4_replace 19 = .ok (.istore 5, 2) := by decide +kernel
theorem dX4_replace_21 : decode cX4_replace 21 = .ok (.iload 5, 2) := by decide +kernel
theorem dX4_replace_23 : decode cX4_replace 23 = .ok (.iconst (-1), 1) := by decide +kernel
theorem dX4_replace_24 : decode cX4_replace 24 = .ok (.if_icmp .ne 5, 3) := by decide +kernel
theorem dX4_replace_27 : decode cX4_replace 27 = .ok (.iconst 0, 1) := by decide +kernel
theorem dX4_replace_28 : decode cX4_replace 28 = .ok (.ireturn, 1) := by decide +kernel
theorem dX4_replace_29 : decode cX4_replace 29 = .ok (.aload 4, 2) := by decide +kernel
theorem dX4_replace_31 : decode cX4_replace 31 = .ok (.iload 5, 2) := by decide +kernel
theorem dX4_replace_33 : decode cX4_replace 33 = .ok (.iload_n 3, 1) := by decide +kernel
theorem dX4_replace_34 : decode cX4_replace 34 = .ok (.invokevirtual 100, 3) := by decide +kernel
theorem dX4_replace_37 : decode cX4_replace 37 = .ok (.iconst 1, 1) := by decide +kernel
theorem dX4_replace_38 : decode cX4_replace 38 = .ok (.ireturn, 1) := by decide +kernel
theorem dX4_remove_0 : decode cX4_remove 0 = .ok (.aload_n 0, 1) := by decide +kernel
theorem dX4_remove_1 : decode cX4_remove 1 = .ok (.iload_n 1, 1) := by decide +kernel
theorem dX4_remove_2 : decode cX4_remove 2 = .ok (.invokevirtual 71, 3) := by decide +kernel
theorem dX4_remove_5 : decode cX4_remove 5 = .ok (.astore_n 3, 1) := by decide +kernel
theorem dX4_remove_6 : decode cX4_remove 6 = .ok (.aload_n 3, 1) := by decide +kernel
theorem dX4_remove_7 : decode cX4_remove 7 = .ok (.iload_n 2, 1) := by decide +kernel
theorem dX4_remove_8 : decode cX4_remove 8 = .ok (.invokevirtual 86, 3) := by decide +kernel
theorem dX4_remove_11 : decode cX4_remove 11 = .ok (.istore 4, 2) := by decide +kernel
theorem dX4_remove_13 : decode cX4_remove 13 = .ok (.iload 4, 2) := by decide +kernel
theorem dX4_remove_15 : decode cX4_remove 15 = .ok (.iconst (-1), 1) := by decide +kernel
theorem dX4_remove_16 : decode cX4_remove 16 = .ok (.if_icmp .ne 13, 3) := by decide +kernel
theorem dX4_remove_19 : decode cX4_remove 19 = .ok (.new 103, 3) := by decide +kernel
theorem dX4_remove_22 : decode cX4_remove 22 = .ok (.dup, 1) := by decide +kernel
theorem dX4_remove_23 : decode cX4_remove 23 = .ok (.ldc 105, 2) := by decide +kernel
theorem dX4_remove_25 : decode cX4_remove 25 = .ok (.invokespecial 107, 3) := by decide +kernel
theorem dX4_remove_28 : decode cX4_remove 28 = .ok (.athrow, 1) := by decide +kernel
theorem dX4_remove_29 : decode cX4_remove 29 = .ok (.aload_n 0, 1) := by decide +kernel
theorem dX4_remove_30 : decode cX4_remove 30 = .ok (.iload_n 1, 1) := by decide +kernel
theorem dX4_remove_31 : decode cX4_remove 31 = .ok (.iconst (-1), 1) := by decide +kernel
theorem dX4_remove_32 : decode cX4_remove 32 = .ok (.invokevirtual 67, 3) := by decide +kernel
theorem dX4_remove_35 : decode cX4_remove 35 = .ok (.aload_n 3, 1) := by decide +kernel
theorem dX4_remove_36 : decode cX4_remove 36 = .ok (.iload 4, 2) := by decide +kernel
theorem dX4_remove_38 : decode cX4_remove 38 = .ok (.invokevirtual 93, 3) := by decide +kernel
theorem dX4_remove_41 : decode cX4_remove 41 = .ok (.istore 5, 2) := by decide +kernel
theorem dX4_remove_43 : decode cX4_remove 43 = .ok (.aload_n 3, 1) := by decide +kernel
theorem dX4_remove_44 : decode cX4_remove 44 = .ok (.iload 4, 2) := by decide +kernel
theorem dX4_remove_46 : decode cX4_remove 46 = .ok (.invokevirtual 96, 3) := by decide +kernel
theorem dX4_remove_49 : decode cX4_remove 49 = .ok (.iload 5, 2) := by decide +kernel
theorem dX4_remove_51 : decode cX4_remove 51 = .ok (.ireturn, 1) := by decide +kernel
theorem dX4_removePair_0 : decode cX4_removePair 0 = .ok (.aload_n 0, 1) := by decide +kernel
theorem dX4_removePair_1 : decode cX4_removePair 1 = .ok (.iload_n 1, 1) := by decide +kernel
theorem dX4_removePair_2 : decode cX4_removePair 2 = .ok (.invokevirtual 71, 3) := by decide +kernel
theorem dX4_removePair_5 : decode cX4_removePair 5 = .ok (.astore 4, 2) := by decide +kernel
theorem dX4_removePair_7 : decode cX4_removePair 7 = .ok (.aload_n 0, 1) := by decide +kernel
theorem dX4_removePair_8 : decode cX4_removePair 8 = .ok (.iload_n 1, 1) := by decide +kernel
theorem dX4_removePair_9 : decode cX4_removePair 9 = .ok (.iconst (-1), 1) := by decide +kernel
theorem dX4_removePair_10 : decode cX4_removePair 10 = .ok (.invokevirtual 67, 3) := by decide +kernel
theorem dX4_removePair_13 : decode cX4_removePair 13 = .ok (.aload 4, 2) := by decide +kernel
theorem dX4_removePair_15 : decode cX4_removePair 15 = .ok (.iload_n 2, 1) := by decide +kernel
theorem dX4_removePair_16 : decode cX4_removePair 16 = .ok (.invokevirtual 86, 3) := by decide +kernel
theorem dX4_removePair_19 : decode cX4_removePair 19 = .ok (.istore 5, 2) := by decide +kernel
theorem dX4_removePair_21 : decode cX4_removePair 21 = .ok (.iload 5, 2) := by decide +kernel
theorem dX4_removePair_23 : decode cX4_removePair 23 = .ok (.iconst (-1), 1) := by decide +kernel
theorem dX4_removePair_24 : decode cX4_removePair 24 = .ok (.if_icmp .eq 14, 3) := by decide +kernel
theorem dX4_removePair_27 : decode cX4_removePair 27 = .ok (.aload 4, 2) := by decide +kernel
theorem dX4_removePair_29 : decode cX4_removePair 29 = .ok (.iload 5, 2) := by decide +kernel
theorem dX4_removePair_31 : decode cX4_removePair 31 = .ok (.invokevirtual 93, 3) := by decide +kernel
theorem dX4_removePair_34 : decode cX4_removePair 34 = .ok (.iload_n 3, 1) := by decide +kernel
theorem dX4_removePair_35 : decode cX4_removePair 35 = .ok (.if_icmp .eq 5, 3) := by decide +kernel
theorem dX4_removePair_38 : decode cX4_removePair 38 = .ok (.iconst 0, 1) := by decide +kernel
theorem dX4_removePair_39 : decode cX4_removePair 39 = .ok (.ireturn, 1) := by decide +kernel
theorem dX4_removePair_40 : decode cX4_removePair 40 = .ok (.aload 4, 2) := by decide +kernel
theorem dX4_removePair_42 : decode cX4_removePair 42 = .ok (.iload 5, 2) := by decide +kernel
theorem dX4_removePair_44 : decode cX4_removePair 44 = .ok (.invokevirtual 96, 3) := by decide +kernel
theorem dX4_removePair_47 : decode cX4_removePair 47 = .ok (.iconst 1, 1) := by decide +kernel
theorem dX4_removePair_48 : decode cX4_removePair 48 = .ok (.ireturn, 1) := by decide +kernel
theorem dX4_fill_0 : decode cX4_fill 0 = .ok (.aload_n 0, 1) := by decide +kernel
theorem dX4_fill_1 : decode cX4_fill 1 = .ok (.iload_n 1, 1) := by decide +kernel
theorem dX4_fill_2 : decode cX4_fill 2 = .ok (.invokevirtual 71, 3) := by decide +kernel
theorem dX4_fill_5 : decode cX4_fill 5 = .ok (.astore 5, 2) := by decide +kernel
theorem dX4_fill_7 : decode cX4_fill 7 = .ok (.iload 4, 2) := by decide +kernel
theorem dX4_fill_9 : decode cX4_fill 9 = .ok (.ifCond .lt 10, 3) := by decide +kernel
theorem dX4_fill_12 : decode cX4_fill 12 = .ok (.iload 4, 2) := by decide +kernel
theorem dX4_fill_14 : decode cX4_fill 14 = .ok (.bipush 60, 2) := by decide +kernel
theorem dX4_fill_16 : decode cX4_fill 16 = .ok (.if_icmp .le 13, 3) := by decide +kernel
theorem dX4_fill_19 : decode cX4_fill 19 = .ok (.new 50, 3) := by decide +kernel
theorem dX4_fill_22 : decode cX4_fill 22 = .ok (.dup, 1) := by decide +kernel
theorem dX4_fill_23 : decode cX4_fill 23 = .ok (.ldc 108, 2) := by decide +kernel
theorem dX4_fill_25 : decode cX4_fill 25 = .ok (.invokespecial 54, 3) := by decide +kernel
theorem dX4_fill_28 : decode cX4_fill 28 = .ok (.athrow, 1) := by decide +kernel
theorem dX4_fill_29 : decode cX4_fill 29 = .ok (.aload_n 0, 1) := by decide +kernel
theorem dX4_fill_30 : decode cX4_fill 30 = .ok (.aload 5, 2) := by decide +kernel
theorem dX4_fill_32 : decode cX4_fill 32 = .ok (.bipush 60, 2) := by decide +kernel
theorem dX4_fill_34 : decode cX4_fill 34 = .ok (.invokevirtual 110, 3) := by decide +kernel
theorem dX4_fill_37 : decode cX4_fill 37 = .ok (.aload_n 0, 1) := by decide +kernel
theorem dX4_fill_38 : decode cX4_fill 38 = .ok (.iload_n 1, 1) := by decide +kernel
theorem dX4_fill_39 : decode cX4_fill 39 = .ok (.iconst (-1), 1) := by decide +kernel
theorem dX4_fill_40 : decode cX4_fill 40 = .ok (.invokevirtual 67, 3) := by decide +kernel
theorem dX4_fill_43 : decode cX4_fill 43 = .ok (.iload_n 2, 1) := by decide +kernel
theorem dX4_fill_44 : decode cX4_fill 44 = .ok (.istore 6, 2) := by decide +kernel
theorem dX4_fill_46 : decode cX4_fill 46 = .ok (.iconst 0, 1) := by decide +kernel
theorem dX4_fill_47 : decode cX4_fill 47 = .ok (.istore 7, 2) := by decide +kernel
theorem dX4_fill_49 : decode cX4_fill 49 = .ok (.iload 7, 2) := by decide +kernel
theorem dX4_fill_51 : decode cX4_fill 51 = .ok (.iload 4, 2) := by decide +kernel
theorem dX4_fill_53 : decode cX4_fill 53 = .ok (.if_icmp .ge 24, 3) := by decide +kernel
theorem dX4_fill_56 : decode cX4_fill 56 = .ok (.aload 5, 2) := by decide +kernel
theorem dX4_fill_58 : decode cX4_fill 58 = .ok (.iload 6, 2) := by decide +kernel
theorem dX4_fill_60 : decode cX4_fill 60 = .ok (.iconst 0, 1) := by decide +kernel
theorem dX4_fill_61 : decode cX4_fill 61 = .ok (.invokevirtual 79, 3) := by decide +kernel
theorem dX4_fill_64 : decode cX4_fill 64 = .ok (.pop, 1) := by decide +kernel
theorem dX4_fill_65 : decode cX4_fill 65 = .ok (.iload 6, 2) := by decide +kernel
theorem dX4_fill_67 : decode cX4_fill 67 = .ok (.iload_n 3, 1) := by decide +kernel
theorem dX4_fill_68 : decode cX4_fill 68 = .ok (.iadd, 1) := by decide +kernel
theorem dX4_fill_69 : decode cX4_fill 69 = .ok (.istore 6, 2) := by decide +kernel
theorem dX4_fill_71 : decode cX4_fill 71 = .ok (.iinc 7 1, 3) := by decide +kernel
theorem dX4_fill_74 : decode cX4_fill 74 = .ok (.goto (-25), 3) := by decide +kernel
theorem dX4_fill_77 : decode cX4_fill 77 = .ok (.aload 5, 2) := by decide +kernel
theorem dX4_fill_79 : decode cX4_fill 79 = .ok (.getfield 57, 3) := by decide +kernel
theorem dX4_fill_82 : decode cX4_fill 82 = .ok (.ireturn, 1) := by decide +kernel
theorem dX4_pour_0 : decode cX4_pour 0 = .ok (.aload_n 0, 1) := by decide +kernel
theorem dX4_pour_1 : decode cX4_pour 1 = .ok (.iload_n 1, 1) := by decide +kernel
theorem dX4_pour_2 : decode cX4_pour 2 = .ok (.invokevirtual 113, 3) := by decide +kernel
theorem dX4_pour_5 : decode cX4_pour 5 = .ok (.astore_n 3, 1) := by decide +kernel
theorem dX4_pour_6 : decode cX4_pour 6 = .ok (.aload_n 0, 1) := by decide +kernel
theorem dX4_pour_7 : decode cX4_pour 7 = .ok (.iload_n 2, 1) := by decide +kernel
theorem dX4_pour_8 : decode cX4_pour 8 = .ok (.invokevirtual 71, 3) := by decide +kernel
theorem dX4_pour_11 : decode cX4_pour 11 = .ok (.astore 4, 2) := by decide +kernel
theorem dX4_pour_13 : decode cX4_pour 13 = .ok (.aload_n 0, 1) := by decide +kernel
theorem dX4_pour_14 : decode cX4_pour 14 = .ok (.iload_n 1, 1) := by decide +kernel
theorem dX4_pour_15 : decode cX4_pour 15 = .ok (.iload_n 2, 1) := by decide +kernel
theorem dX4_pour_16 : decode cX4_pour 16 = .ok (.invokevirtual 116, 3) := by decide +kernel
theorem dX4_pour_19 : decode cX4_pour 19 = .ok (.aload_n 0, 1) := by decide +kernel
theorem dX4_pour_20 : decode cX4_pour 20 = .ok (.aload 4, 2) := by decide +kernel
theorem dX4_pour_22 : decode cX4_pour 22 = .ok (.aload_n 3, 1) := by decide +kernel
theorem dX4_pour_23 : decode cX4_pour 23 = .ok (.aload 4, 2) := by decide +kernel
theorem dX4_pour_25 : decode cX4_pour 25 = .ok (.invokevirtual 119, 3) := by decide +kernel
theorem dX4_pour_28 : decode cX4_pour 28 = .ok (.invokevirtual 110, 3) := by decide +kernel
theorem dX4_pour_31 : decode cX4_pour 31 = .ok (.aload_n 0, 1) := by decide +kernel
theorem dX4_pour_32 : decode cX4_pour 32 = .ok (.iload_n 2, 1) := by decide +kernel
theorem dX4_pour_33 : decode cX4_pour 33 = .ok (.iconst (-1), 1) := by decide +kernel
theorem dX4_pour_34 : decode cX4_pour 34 = .ok (.invokevirtual 67, 3) := by decide +kernel
theorem dX4_pour_37 : decode cX4_pour 37 = .ok (.aload 4, 2) := by decide +kernel
theorem dX4_pour_39 : decode cX4_pour 39 = .ok (.aload_n 3, 1) := by decide +kernel
theorem dX4_pour_40 : decode cX4_pour 40 = .ok (.invokevirtual 123, 3) := by decide +kernel
theorem dX4_pour_43 : decode cX4_pour 43 = .ok (.aload 4, 2) := by decide +kernel
theorem dX4_pour_45 : decode cX4_pour 45 = .ok (.getfield 57, 3) := by decide +kernel
theorem dX4_pour_48 : decode cX4_pour 48 = .ok (.ireturn, 1) := by decide +kernel
theorem dX4_copy_0 : decode cX4_copy 0 = .ok (.aload_n 0, 1) := by decide +kernel
theorem dX4_copy_1 : decode cX4_copy 1 = .ok (.iload_n 1, 1) := by decide +kernel
theorem dX4_copy_2 : decode cX4_copy 2 = .ok (.invokevirtual 113, 3) := by decide +kernel
theorem dX4_copy_5 : decode cX4_copy 5 = .ok (.astore_n 3, 1) := by decide +kernel
theorem dX4_copy_6 : decode cX4_copy 6 = .ok (.aload_n 0, 1) := by decide +kernel
theorem dX4_copy_7 : decode cX4_copy 7 = .ok (.iload_n 2, 1) := by decide +kernel
theorem dX4_copy_8 : decode cX4_copy 8 = .ok (.invokevirtual 83, 3) := by decide +kernel
theorem dX4_copy_11 : decode cX4_copy 11 = .ok (.astore 4, 2) := by decide +kernel
theorem dX4_copy_13 : decode cX4_copy 13 = .ok (.aload_n 0, 1) := by decide +kernel
theorem dX4_copy_14 : decode cX4_copy 14 = .ok (.iload_n 1, 1) := by decide +kernel
theorem dX4_copy_15 : decode cX4_copy 15 = .ok (.iload_n 2, 1) := by decide +kernel
theorem dX4_copy_16 : decode cX4_copy 16 = .ok (.invokevirtual 116, 3) := by decide +kernel
theorem dX4_copy_19 : decode cX4_copy 19 = .ok (.aload_n 0, 1) := by decide +kernel
theorem dX4_copy_20 : decode cX4_copy 20 = .ok (.iload_n 2, 1) := by decide +kernel
theorem dX4_copy_21 : decode cX4_copy 21 = .ok (.iconst (-1), 1) := by decide +kernel
theorem dX4_copy_22 : decode cX4_copy 22 = .ok (.invokevirtual 67, 3) := by decide +kernel
theorem dX4_copy_25 : decode cX4_copy 25 = .ok (.aload 4, 2) := by decide +kernel
theorem dX4_copy_27 : decode cX4_copy 27 = .ok (.aload_n 3, 1) := by decide +kernel
theorem dX4_copy_28 : decode cX4_copy 28 = .ok (.invokevirtual 127, 3) := by decide +kernel
theorem dX4_copy_31 : decode cX4_copy 31 = .ok (.aload 4, 2) := by decide +kernel
theorem dX4_copy_33 : decode cX4_copy 33 = .ok (.getfield 57, 3) := by decide +kernel
theorem dX4_copy_36 : decode cX4_copy 36 = .ok (.ireturn, 1) := by decide +kernel
theorem dX4_clear_0 : decode cX4_clear 0 = .ok (.aload_n 0, 1) := by decide +kernel
theorem dX4_clear_1 : decode cX4_clear 1 = .ok (.iload_n 1, 1) := by decide +kernel
theorem dX4_clear_2 : decode cX4_clear 2 = .ok (.invokevirtual 71, 3) := by decide +kernel
theorem dX4_clear_5 : decode cX4_clear 5 = .ok (.astore_n 2, 1) := by decide +kernel
theorem dX4_clear_6 : decode cX4_clear 6 = .ok (.aload_n 0, 1) := by decide +kernel
theorem dX4_clear_7 : decode cX4_clear 7 = .ok (.iload_n 1, 1) := by decide +kernel
theorem dX4_clear_8 : decode cX4_clear 8 = .ok (.iconst (-1), 1) := by decide +kernel
theorem dX4_clear_9 : decode cX4_clear 9 = .ok (.invokevirtual 67, 3) := by decide +kernel
theorem dX4_clear_12 : decode cX4_clear 12 = .ok (.aload_n 2, 1) := by decide +kernel
theorem dX4_clear_13 : decode cX4_clear 13 = .ok (.getfield 57, 3) := by decide +kernel
theorem dX4_clear_16 : decode cX4_clear 16 = .ok (.istore_n 3, 1) := by decide +kernel
theorem dX4_clear_17 : decode cX4_clear 17 = .ok (.aload_n 2, 1) := by decide +kernel
theorem dX4_clear_18 : decode cX4_clear 18 = .ok (.invokevirtual 61, 3) := by decide +kernel
theorem dX4_clear_21 : decode cX4_clear 21 = .ok (.iload_n 3, 1) := by decide +kernel
theorem dX4_clear_22 : decode cX4_clear 22 = .ok (.ireturn, 1) := by decide +kernel
theorem dX4_offer_0 : decode cX4_offer 0 = .ok (.aload_n 0, 1) := by decide +kernel
theorem dX4_offer_1 : decode cX4_offer 1 = .ok (.aload_n 0, 1) := by decide +kernel
theorem dX4_offer_2 : decode cX4_offer 2 = .ok (.getfield 24, 3) := by decide +kernel
theorem dX4_offer_5 : decode cX4_offer 5 = .ok (.iload_n 1, 1) := by decide +kernel
theorem dX4_offer_6 : decode cX4_offer 6 = .ok (.invokevirtual 75, 3) := by decide +kernel
theorem dX4_offer_9 : decode cX4_offer 9 = .ok (.aload_n 0, 1) := by decide +kernel
theorem dX4_offer_10 : decode cX4_offer 10 = .ok (.iconst 3, 1) := by decide +kernel
theorem dX4_offer_11 : decode cX4_offer 11 = .ok (.iconst (-1), 1) := by decide +kernel
theorem dX4_offer_12 : decode cX4_offer 12 = .ok (.invokevirtual 67, 3) := by decide +kernel
theorem dX4_offer_15 : decode cX4_offer 15 = .ok (.aload_n 0, 1) := by decide +kernel
theorem dX4_offer_16 : decode cX4_offer 16 = .ok (.getfield 24, 3) := by decide +kernel
theorem dX4_offer_19 : decode cX4_offer 19 = .ok (.iload_n 1, 1) := by decide +kernel
theorem dX4_offer_20 : decode cX4_offer 20 = .ok (.invokevirtual 86, 3) := by decide +kernel
theorem dX4_offer_23 : decode cX4_offer 23 = .ok (.istore_n 2, 1) := by decide +kernel
theorem dX4_offer_24 : decode cX4_offer 24 = .ok (.aload_n 0, 1) := by decide +kernel
theorem dX4_offer_25 : decode cX4_offer 25 = .ok (.getfield 24, 3) := by decide +kernel
theorem dX4_offer_28 : decode cX4_offer 28 = .ok (.iload_n 1, 1) := by decide +kernel
theorem dX4_offer_29 : decode cX4_offer 29 = .ok (.iload_n 2, 1) := by decide +kernel
theorem dX4_offer_30 : decode cX4_offer 30 = .ok (.iconst (-1), 1) := by decide +kernel
theorem dX4_offer_31 : decode cX4_offer 31 = .ok (.if_icmp .ne 7, 3) := by decide +kernel
theorem dX4_offer_34 : decode cX4_offer 34 = .ok (.iconst 1, 1) := by decide +kernel
theorem dX4_offer_35 : decode cX4_offer 35 = .ok (.goto 13, 3) := by decide +kernel
theorem dX4_offer_38 : decode cX4_offer 38 = .ok (.aload_n 0, 1) := by decide +kernel
theorem dX4_offer_39 : decode cX4_offer 39 = .ok (.getfield 24, 3) := by decide +kernel
theorem dX4_offer_42 : decode cX4_offer 42 = .ok (.iload_n 2, 1) := by decide +kernel
theorem dX4_offer_43 : decode cX4_offer 43 = .ok (.invokevirtual 93, 3) := by decide +kernel
theorem dX4_offer_46 : decode cX4_offer 46 = .ok (.iconst 1, 1) := by decide +kernel
theorem dX4_offer_47 : decode cX4_offer 47 = .ok (.iadd, 1) := by decide +kernel
theorem dX4_offer_48 : decode cX4_offer 48 = .ok (.invokevirtual 79, 3) := by decide +kernel
theorem dX4_offer_51 : decode cX4_offer 51 = .ok (.pop, 1) := by decide +kernel
theorem dX4_offer_52 : decode cX4_offer 52 = .ok (.iload_n 2, 1) := by decide +kernel
theorem dX4_offer_53 : decode cX4_offer 53 = .ok (.iconst (-1), 1) := by decide +kernel
theorem dX4_offer_54 : decode cX4_offer 54 = .ok (.if_icmp .ne 7, 3) := by decide +kernel
theorem dX4_offer_57 : decode cX4_offer 57 = .ok (.iconst 1, 1) := by decide +kernel
theorem dX4_offer_58 : decode cX4_offer 58 = .ok (.goto 4, 3) := by decide +kernel
theorem dX4_offer_61 : decode cX4_offer 61 = .ok (.iconst 0, 1) := by decide +kernel
theorem dX4_offer_62 : decode cX4_offer 62 = .ok (.ireturn, 1) := by decide +kernel
theorem dX4_poll_0 : decode cX4_poll 0 = .ok (.aload_n 0, 1) := by decide +kernel
theorem dX4_poll_1 : decode cX4_poll 1 = .ok (.getfield 24, 3) := by decide +kernel
theorem dX4_poll_4 : decode cX4_poll 4 = .ok (.getfield 57, 3) := by decide +kernel
theorem dX4_poll_7 : decode cX4_poll 7 = .ok (.ifCond .ne 13, 3) := by decide +kernel
theorem dX4_poll_10 : decode cX4_poll 10 = .ok (.new 103, 3) := by decide +kernel
theorem dX4_poll_13 : decode cX4_poll 13 = .ok (.dup, 1) := by decide +kernel
theorem dX4_poll_14 : decode cX4_poll 14 = .ok (.ldc 130, 2) := by decide +kernel
theorem dX4_poll_16 : decode cX4_poll 16 = .ok (.invokespecial 107, 3) := by decide +kernel
theorem dX4_poll_19 : decode cX4_poll 19 = .ok (.athrow, 1) := by decide +kernel
theorem dX4_poll_20 : decode cX4_poll 20 = .ok (.aload_n 0, 1) := by decide +kernel
theorem dX4_poll_21 : decode cX4_poll 21 = .ok (.iconst 3, 1) := by decide +kernel
theorem dX4_poll_22 : decode cX4_poll 22 = .ok (.iconst (-1), 1) := by decide +kernel
theorem dX4_poll_23 : decode cX4_poll 23 = .ok (.invokevirtual 67, 3) := by decide +kernel
theorem dX4_poll_26 : decode cX4_poll 26 = .ok (.aload_n 0, 1) := by decide +kernel
theorem dX4_poll_27 : decode cX4_poll 27 = .ok (.getfield 24, 3) := by decide +kernel
theorem dX4_poll_30 : decode cX4_poll 30 = .ok (.iconst 0, 1) := by decide +kernel
theorem dX4_poll_31 : decode cX4_poll 31 = .ok (.invokevirtual 132, 3) := by decide +kernel
theorem dX4_poll_34 : decode cX4_poll 34 = .ok (.istore_n 1, 1) := by decide +kernel
theorem dX4_poll_35 : decode cX4_poll 35 = .ok (.aload_n 0, 1) := by decide +kernel
theorem dX4_poll_36 : decode cX4_poll 36 = .ok (.getfield 24, 3) := by decide +kernel
theorem dX4_poll_39 : decode cX4_poll 39 = .ok (.iconst 0, 1) := by decide +kernel
theorem dX4_poll_40 : decode cX4_poll 40 = .ok (.invokevirtual 96, 3) := by decide +kernel
theorem dX4_poll_43 : decode cX4_poll 43 = .ok (.iload_n 1, 1) := by decide +kernel
theorem dX4_poll_44 : decode cX4_poll 44 = .ok (.ireturn, 1) := by decide +kernel
theorem dX4_toEnd_0 : decode cX4_toEnd 0 = .ok (.aload_n 0, 1) := by decide +kernel
theorem dX4_toEnd_1 : decode cX4_toEnd 1 = .ok (.getfield 24, 3) := by decide +kernel
theorem dX4_toEnd_4 : decode cX4_toEnd 4 = .ok (.iload_n 1, 1) := by decide +kernel
theorem dX4_toEnd_5 : decode cX4_toEnd 5 = .ok (.invokevirtual 86, 3) := by decide +kernel
theorem dX4_toEnd_8 : decode cX4_toEnd 8 = .ok (.istore_n 2, 1) := by decide +kernel
theorem dX4_toEnd_9 : decode cX4_toEnd 9 = .ok (.iload_n 2, 1) := by decide +kernel
theorem dX4_toEnd_10 : decode cX4_toEnd 10 = .ok (.iconst (-1), 1) := by decide +kernel
theorem dX4_toEnd_11 : decode cX4_toEnd 11 = .ok (.if_icmp .ne 13, 3) := by decide +kernel
theorem dX4_toEnd_14 : decode cX4_toEnd 14 = .ok (.new 103, 3) := by decide +kernel
theorem dX4_toEnd_17 : decode cX4_toEnd 17 = .ok (.dup, 1) := by decide +kernel
theorem dX4_toEnd_18 : decode cX4_toEnd 18 = .ok (.ldc 135, 2) := by decide +kernel
theorem dX4_toEnd_20 : decode cX4_toEnd 20 = .ok (.invokespecial 107, 3) := by decide +kernel
theorem dX4_toEnd_23 : decode cX4_toEnd 23 = .ok (.athrow, 1) := by decide +kernel
theorem dX4_toEnd_24 : decode cX4_toEnd 24 = .ok (.aload_n 0, 1) := by decide +kernel
theorem dX4_toEnd_25 : decode cX4_toEnd 25 = .ok (.iconst 3, 1) := by decide +kernel
theorem dX4_toEnd_26 : decode cX4_toEnd 26 = .ok (.iconst (-1), 1) := by decide +kernel
theorem dX4_toEnd_27 : decode cX4_toEnd 27 = .ok (.invokevirtual 67, 3) := by decide +kernel
theorem dX4_toEnd_30 : decode cX4_toEnd 30 = .ok (.aload_n 0, 1) := by decide +kernel
theorem dX4_toEnd_31 : decode cX4_toEnd 31 = .ok (.getfield 24, 3) := by decide +kernel
theorem dX4_toEnd_34 : decode cX4_toEnd 34 = .ok (.iload_n 2, 1) := by decide +kernel
theorem dX4_toEnd_35 : decode cX4_toEnd 35 = .ok (.invokevirtual 93, 3) := by decide +kernel
theorem dX4_toEnd_38 : decode cX4_toEnd 38 = .ok (.istore_n 3, 1) := by decide +kernel
theorem dX4_toEnd_39 : decode cX4_toEnd 39 = .ok (.aload_n 0, 1) := by decide +kernel
theorem dX4_toEnd_40 : decode cX4_toEnd 40 = .ok (.getfield 24, 3) := by decide +kernel
theorem dX4_toEnd_43 : decode cX4_toEnd 43 = .ok (.iload_n 2, 1) := by decide +kernel
theorem dX4_toEnd_44 : decode cX4_toEnd 44 = .ok (.invokevirtual 96, 3) := by decide +kernel
theorem dX4_toEnd_47 : decode cX4_toEnd 47 = .ok (.aload_n 0, 1) := by decide +kernel
theorem dX4_toEnd_48 : decode cX4_toEnd 48 = .ok (.getfield 24, 3) := by decide +kernel
theorem dX4_toEnd_51 : decode cX4_toEnd 51 = .ok (.iload_n 1, 1) := by decide +kernel
theorem dX4_toEnd_52 : decode cX4_toEnd 52 = .ok (.iload_n 3, 1) := by decide +kernel
theorem dX4_toEnd_53 : decode cX4_toEnd 53 = .ok (.invokevirtual 90, 3) := by decide +kernel
theorem dX4_toEnd_56 : decode cX4_toEnd 56 = .ok (.iload_n 2, 1) := by decide +kernel
theorem dX4_toEnd_57 : decode cX4_toEnd 57 = .ok (.ireturn, 1) := by decide +kernel
theorem dX4_open_0 : decode cX4_open 0 = .ok (.aload_n 0, 1) := by decide +kernel
theorem dX4_open_1 : decode cX4_open 1 = .ok (.iload_n 1, 1) := by decide +kernel
theorem dX4_open_2 : decode cX4_open 2 = .ok (.invokevirtual 137, 3) := by decide +kernel
theorem dX4_open_5 : decode cX4_open 5 = .ok (.astore 4, 2) := by decide +kernel
theorem dX4_open_7 : decode cX4_open 7 = .ok (.aload_n 0, 1) := by decide +kernel
theorem dX4_open_8 : decode cX4_open 8 = .ok (.iload_n 2, 1) := by decide +kernel
theorem dX4_open_9 : decode cX4_open 9 = .ok (.invokevirtual 113, 3) := by decide +kernel
theorem dX4_open_12 : decode cX4_open 12 = .ok (.astore 5, 2) := by decide +kernel
theorem dX4_open_14 : decode cX4_open 14 = .ok (.aload_n 0, 1) := by decide +kernel
theorem dX4_open_15 : decode cX4_open 15 = .ok (.iload_n 3, 1) := by decide +kernel
theorem dX4_open_16 : decode cX4_open 16 = .ok (.invokevirtual 141, 3) := by decide +kernel
theorem dX4_open_19 : decode cX4_open 19 = .ok (.aload 4, 2) := by decide +kernel
theorem dX4_open_21 : decode cX4_open 21 = .ok (.iload_n 2, 1) := by decide +kernel
theorem dX4_open_22 : decode cX4_open 22 = .ok (.iload_n 3, 1) := by decide +kernel
theorem dX4_open_23 : decode cX4_open 23 = .ok (.invokevirtual 144, 3) := by decide +kernel
theorem dX4_open_26 : decode cX4_open 26 = .ok (.aload 5, 2) := by decide +kernel
theorem dX4_open_28 : decode cX4_open 28 = .ok (.getfield 57, 3) := by decide +kernel
theorem dX4_open_31 : decode cX4_open 31 = .ok (.ireturn, 1) := by decide +kernel
theorem dX4_hasNext_0 : decode cX4_hasNext 0 = .ok (.aload_n 0, 1) := by decide +kernel
theorem dX4_hasNext_1 : decode cX4_hasNext 1 = .ok (.iload_n 1, 1) := by decide +kernel
theorem dX4_hasNext_2 : decode cX4_hasNext 2 = .ok (.invokevirtual 147, 3) := by decide +kernel
theorem dX4_hasNext_5 : decode cX4_hasNext 5 = .ok (.astore_n 2, 1) := by decide +kernel
theorem dX4_hasNext_6 : decode cX4_hasNext 6 = .ok (.aload_n 2, 1) := by decide +kernel
theorem dX4_hasNext_7 : decode cX4_hasNext 7 = .ok (.getfield 150, 3) := by decide +kernel
theorem dX4_hasNext_10 : decode cX4_hasNext 10 = .ok (.aload_n 0, 1) := by decide +kernel
theorem dX4_hasNext_11 : decode cX4_hasNext 11 = .ok (.aload_n 2, 1) := by decide +kernel
theorem dX4_hasNext_12 : decode cX4_hasNext 12 = .ok (.getfield 153, 3) := by decide +kernel
theorem dX4_hasNext_15 : decode cX4_hasNext 15 = .ok (.invokevirtual 113, 3) := by decide +kernel
theorem dX4_hasNext_18 : decode cX4_hasNext 18 = .ok (.getfield 57, 3) := by decide +kernel
theorem dX4_hasNext_21 : decode cX4_hasNext 21 = .ok (.if_icmp .ge 7, 3) := by decide +kernel
theorem dX4_hasNext_24 : decode cX4_hasNext 24 = .ok (.iconst 1, 1) := by decide +kernel
theorem dX4_hasNext_25 : decode cX4_hasNext 25 = .ok (.goto 4, 3) := by decide +kernel
theorem dX4_hasNext_28 : decode cX4_hasNext 28 = .ok (.iconst 0, 1) := by decide +kernel
theorem dX4_hasNext_29 : decode cX4_hasNext 29 = .ok (.ireturn, 1) := by decide +kernel
theorem dX4_next_0 : decode cX4_next 0 = .ok (.aload_n 0, 1) := by decide +kernel
theorem dX4_next_1 : decode cX4_next 1 = .ok (.iload_n 1, 1) := by decide +kernel
theorem dX4_next_2 : decode cX4_next 2 = .ok (.invokevirtual 147, 3) := by decide +kernel
theorem dX4_next_5 : decode cX4_next 5 = .ok (.astore_n 2, 1) := by decide +kernel
theorem dX4_next_6 : decode cX4_next 6 = .ok (.aload_n 0, 1) := by decide +kernel
theorem dX4_next_7 : decode cX4_next 7 = .ok (.aload_n 2, 1) := by decide +kernel
theorem dX4_next_8 : decode cX4_next 8 = .ok (.getfield 153, 3) := by decide +kernel
theorem dX4_next_11 : decode cX4_next 11 = .ok (.invokevirtual 113, 3) := by decide +kernel
theorem dX4_next_14 : decode cX4_next 14 = .ok (.astore_n 3, 1) := by decide +kernel
theorem dX4_next_15 : decode cX4_next 15 = .ok (.aload_n 2, 1) := by decide +kernel
theorem dX4_next_16 : decode cX4_next 16 = .ok (.getfield 150, 3) := by decide +kernel
theorem dX4_next_19 : decode cX4_next 19 = .ok (.istore 4, 2) := by decide +kernel
theorem dX4_next_21 : decode cX4_next 21 = .ok (.iload 4, 2) := by decide +kernel
theorem dX4_next_23 : decode cX4_next 23 = .ok (.aload_n 3, 1) := by decide +kernel
theorem dX4_next_24 : decode cX4_next 24 = .ok (.getfield 57, 3) := by decide +kernel
theorem dX4_next_27 : decode cX4_next 27 = .ok (.if_icmp .lt 13, 3) := by decide +kernel
theorem dX4_next_30 : decode cX4_next 30 = .ok (.new 103, 3) := by decide +kernel
theorem dX4_next_33 : decode cX4_next 33 = .ok (.dup, 1) := by decide +kernel
theorem dX4_next_34 : decode cX4_next 34 = .ok (.ldc 156, 2) := by decide +kernel
theorem dX4_next_36 : decode cX4_next 36 = .ok (.invokespecial 107, 3) := by decide +kernel
theorem dX4_next_39 : decode cX4_next 39 = .ok (.athrow, 1) := by decide +kernel
theorem dX4_next_40 : decode cX4_next 40 = .ok (.aload_n 2, 1) := by decide +kernel
theorem dX4_next_41 : decode cX4_next 41 = .ok (.invokevirtual 158, 3) := by decide +kernel
theorem dX4_next_44 : decode cX4_next 44 = .ok (.aload_n 2, 1) := by decide +kernel
theorem dX4_next_45 : decode cX4_next 45 = .ok (.getfield 161, 3) := by decide +kernel
theorem dX4_next_48 : decode cX4_next 48 = .ok (.iconst 1, 1) := by decide +kernel
theorem dX4_next_49 : decode cX4_next 49 = .ok (.if_icmp .ne 12, 3) := by decide +kernel
theorem dX4_next_52 : decode cX4_next 52 = .ok (.aload_n 3, 1) := by decide +kernel
theorem dX4_next_53 : decode cX4_next 53 = .ok (.iload 4, 2) := by decide +kernel
theorem dX4_next_55 : decode cX4_next 55 = .ok (.invokevirtual 93, 3) := by decide +kernel
theorem dX4_next_58 : decode cX4_next 58 = .ok (.goto 9, 3) := by decide +kernel
theorem dX4_next_61 : decode cX4_next 61 = .ok (.aload_n 3, 1) := by decide +kernel
theorem dX4_next_62 : decode cX4_next 62 = .ok (.iload 4, 2) := by decide +kernel
theorem dX4_next_64 : decode cX4_next 64 = .ok (.invokevirtual 132, 3) := by decide +kernel
theorem dX4_next_67 : decode cX4_next 67 = .ok (.ireturn, 1) := by decide +kernel
theorem dX4_removeAt_0 : decode cX4_removeAt 0 = .ok (.aload_n 0, 1) := by decide +kernel
theorem dX4_removeAt_1 : decode cX4_removeAt 1 = .ok (.iload_n 1, 1) := by decide +kernel
theorem dX4_removeAt_2 : decode cX4_removeAt 2 = .ok (.invokevirtual 137, 3) := by decide +kernel
theorem dX4_removeAt_5 : decode cX4_removeAt 5 = .ok (.astore_n 2, 1) := by decide +kernel
theorem dX4_removeAt_6 : decode cX4_removeAt 6 = .ok (.aload_n 0, 1) := by decide +kernel
theorem dX4_removeAt_7 : decode cX4_removeAt 7 = .ok (.aload_n 2, 1) := by decide +kernel
theorem dX4_removeAt_8 : decode cX4_removeAt 8 = .ok (.invokevirtual 164, 3) := by decide +kernel
theorem dX4_removeAt_11 : decode cX4_removeAt 11 = .ok (.aload_n 0, 1) := by decide +kernel
theorem dX4_removeAt_12 : decode cX4_removeAt 12 = .ok (.aload_n 2, 1) := by decide +kernel
theorem dX4_removeAt_13 : decode cX4_removeAt 13 = .ok (.getfield 153, 3) := by decide +kernel
theorem dX4_removeAt_16 : decode cX4_removeAt 16 = .ok (.invokevirtual 113, 3) := by decide +kernel
theorem dX4_removeAt_19 : decode cX4_removeAt 19 = .ok (.astore_n 3, 1) := by decide +kernel
theorem dX4_removeAt_20 : decode cX4_removeAt 20 = .ok (.aload_n 3, 1) := by decide +kernel
theorem dX4_removeAt_21 : decode cX4_removeAt 21 = .ok (.aload_n 2, 1) := by decide +kernel
theorem dX4_removeAt_22 : decode cX4_removeAt 22 = .ok (.invokevirtual 168, 3) := by decide +kernel
theorem dX4_removeAt_25 : decode cX4_removeAt 25 = .ok (.invokevirtual 96, 3) := by decide +kernel
theorem dX4_removeAt_28 : decode cX4_removeAt 28 = .ok (.aload_n 2, 1) := by decide +kernel
theorem dX4_removeAt_29 : decode cX4_removeAt 29 = .ok (.invokevirtual 172, 3) := by decide +kernel
theorem dX4_removeAt_32 : decode cX4_removeAt 32 = .ok (.aload_n 0, 1) := by decide +kernel
theorem dX4_removeAt_33 : decode cX4_removeAt 33 = .ok (.aload_n 2, 1) := by decide +kernel
theorem dX4_removeAt_34 : decode cX4_removeAt 34 = .ok (.getfield 153, 3) := by decide +kernel
theorem dX4_removeAt_37 : decode cX4_removeAt 37 = .ok (.iload_n 1, 1) := by decide +kernel
theorem dX4_removeAt_38 : decode cX4_removeAt 38 = .ok (.invokevirtual 67, 3) := by decide +kernel
theorem dX4_removeAt_41 : decode cX4_removeAt 41 = .ok (.aload_n 3, 1) := by decide +kernel
theorem dX4_removeAt_42 : decode cX4_removeAt 42 = .ok (.getfield 57, 3) := by decide +kernel
theorem dX4_removeAt_45 : decode cX4_removeAt 45 = .ok (.ireturn, 1) := by decide +kernel
theorem dX4_setAt_0 : decode cX4_setAt 0 = .ok (.aload_n 0, 1) := by decide +kernel
theorem dX4_setAt_1 : decode cX4_setAt 1 = .ok (.iload_n 1, 1) := by decide +kernel
theorem dX4_setAt_2 : decode cX4_setAt 2 = .ok (.invokevirtual 137, 3) := by decide +kernel
theorem dX4_setAt_5 : decode cX4_setAt 5 = .ok (.astore_n 3, 1) := by decide +kernel
theorem dX4_setAt_6 : decode cX4_setAt 6 = .ok (.aload_n 3, 1) := by decide +kernel
theorem dX4_setAt_7 : decode cX4_setAt 7 = .ok (.getfield 153, 3) := by decide +kernel
theorem dX4_setAt_10 : decode cX4_setAt 10 = .ok (.iconst (-1), 1) := by decide +kernel
theorem dX4_setAt_11 : decode cX4_setAt 11 = .ok (.if_icmp .eq 21, 3) := by decide +kernel
theorem dX4_setAt_14 : decode cX4_setAt 14 = .ok (.aload_n 3, 1) := by decide +kernel
theorem dX4_setAt_15 : decode cX4_setAt 15 = .ok (.getfield 161, 3) := by decide +kernel
theorem dX4_setAt_18 : decode cX4_setAt 18 = .ok (.iconst 2, 1) := by decide +kernel
theorem dX4_setAt_19 : decode cX4_setAt 19 = .ok (.if_icmp .eq 13, 3) := by decide +kernel
theorem dX4_setAt_22 : decode cX4_setAt 22 = .ok (.new 50, 3) := by decide +kernel
theorem dX4_setAt_25 : decode cX4_setAt 25 = .ok (.dup, 1) := by decide +kernel
theorem dX4_setAt_26 : decode cX4_setAt 26 = .ok (.ldc 175, 2) := by decide +kernel
theorem dX4_setAt_28 : decode cX4_setAt 28 = .ok (.invokespecial 54, 3) := by decide +kernel
theorem dX4_setAt_31 : decode cX4_setAt 31 = .ok (.athrow, 1) := by decide +kernel
theorem dX4_setAt_32 : decode cX4_setAt 32 = .ok (.aload_n 0, 1) := by decide +kernel
theorem dX4_setAt_33 : decode cX4_setAt 33 = .ok (.aload_n 3, 1) := by decide +kernel
theorem dX4_setAt_34 : decode cX4_setAt 34 = .ok (.invokevirtual 164, 3) := by decide +kernel
theorem dX4_setAt_37 : decode cX4_setAt 37 = .ok (.aload_n 0, 1) := by decide +kernel
theorem dX4_setAt_38 : decode cX4_setAt 38 = .ok (.aload_n 3, 1) := by decide +kernel
theorem dX4_setAt_39 : decode cX4_setAt 39 = .ok (.getfield 153, 3) := by decide +kernel
theorem dX4_setAt_42 : decode cX4_setAt 42 = .ok (.invokevirtual 113, 3) := by decide +kernel
theorem dX4_setAt_45 : decode cX4_setAt 45 = .ok (.astore 4, 2) := by decide +kernel
theorem dX4_setAt_47 : decode cX4_setAt 47 = .ok (.aload 4, 2) := by decide +kernel
theorem dX4_setAt_49 : decode cX4_setAt 49 = .ok (.aload_n 3, 1) := by decide +kernel
theorem dX4_setAt_50 : decode cX4_setAt 50 = .ok (.invokevirtual 168, 3) := by decide +kernel
theorem dX4_setAt_53 : decode cX4_setAt 53 = .ok (.invokevirtual 93, 3) := by decide +kernel
theorem dX4_setAt_56 : decode cX4_setAt 56 = .ok (.istore 5, 2) := by decide +kernel
theorem dX4_setAt_58 : decode cX4_setAt 58 = .ok (.aload 4, 2) := by decide +kernel
theorem dX4_setAt_60 : decode cX4_setAt 60 = .ok (.aload_n 3, 1) := by decide +kernel
theorem dX4_setAt_61 : decode cX4_setAt 61 = .ok (.invokevirtual 168, 3) := by decide +kernel
theorem dX4_setAt_64 : decode cX4_setAt 64 = .ok (.iload_n 2, 1) := by decide +kernel
theorem dX4_setAt_65 : decode cX4_setAt 65 = .ok (.invokevirtual 100, 3) := by decide +kernel
theorem dX4_setAt_68 : decode cX4_setAt 68 = .ok (.aload_n 0, 1) := by decide +kernel
theorem dX4_setAt_69 : decode cX4_setAt 69 = .ok (.aload_n 3, 1) := by decide +kernel
theorem dX4_setAt_70 : decode cX4_setAt 70 = .ok (.getfield 153, 3) := by decide +kernel
theorem dX4_setAt_73 : decode cX4_setAt 73 = .ok (.iload_n 1, 1) := by decide +kernel
theorem dX4_setAt_74 : decode cX4_setAt 74 = .ok (.invokevirtual 67, 3) := by decide +kernel
theorem dX4_setAt_77 : decode cX4_setAt 77 = .ok (.iload 5, 2) := by decide +kernel
theorem dX4_setAt_79 : decode cX4_setAt 79 = .ok (.ireturn, 1) := by decide +kernel
theorem dX4_bookOf_0 : decode cX4_bookOf 0 = .ok (.aload_n 0, 1) := by decide +kernel
theorem dX4_bookOf_1 : decode cX4_bookOf 1 = .ok (.iload_n 1, 1) := by decide +kernel
theorem dX4_bookOf_2 : decode cX4_bookOf 2 = .ok (.invokevirtual 137, 3) := by decide +kernel
theorem dX4_bookOf_5 : decode cX4_bookOf 5 = .ok (.getfield 153, 3) := by decide +kernel
theorem dX4_bookOf_8 : decode cX4_bookOf 8 = .ok (.ireturn, 1) := by decide +kernel
theorem dX4_size_0 : decode cX4_size 0 = .ok (.aload_n 0, 1) := by decide +kernel
theorem dX4_size_1 : decode cX4_size 1 = .ok (.iload_n 1, 1) := by decide +kernel
theorem dX4_size_2 : decode cX4_size 2 = .ok (.invokevirtual 113, 3) := by decide +kernel
theorem dX4_size_5 : decode cX4_size 5 = .ok (.getfield 57, 3) := by decide +kernel
theorem dX4_size_8 : decode cX4_size 8 = .ok (.ireturn, 1) := by decide +kernel
theorem dX4_hasKey_0 : decode cX4_hasKey 0 = .ok (.aload_n 0, 1) := by decide +kernel
theorem dX4_hasKey_1 : decode cX4_hasKey 1 = .ok (.iload_n 1, 1) := by decide +kernel
theorem dX4_hasKey_2 : decode cX4_hasKey 2 = .ok (.invokevirtual 113, 3) := by decide +kernel
theorem dX4_hasKey_5 : decode cX4_hasKey 5 = .ok (.iload_n 2, 1) := by decide +kernel
theorem dX4_hasKey_6 : decode cX4_hasKey 6 = .ok (.invokevirtual 86, 3) := by decide +kernel
theorem dX4_hasKey_9 : decode cX4_hasKey 9 = .ok (.iconst (-1), 1) := by decide +kernel
theorem dX4_hasKey_10 : decode cX4_hasKey 10 = .ok (.if_icmp .eq 7, 3) := by decide +kernel
theorem dX4_hasKey_13 : decode cX4_hasKey 13 = .ok (.iconst 1, 1) := by decide +kernel
theorem dX4_hasKey_14 : decode cX4_hasKey 14 = .ok (.goto 4, 3) := by decide +kernel
theorem dX4_hasKey_17 : decode cX4_hasKey 17 = .ok (.iconst 0, 1) := by decide +kernel
theorem dX4_hasKey_18 : decode cX4_hasKey 18 = .ok (.ireturn, 1) := by decide +kernel
theorem dX4_hasValue_0 : decode cX4_hasValue 0 = .ok (.aload_n 0, 1) := by decide +kernel
theorem dX4_hasValue_1 : decode cX4_hasValue 1 = .ok (.iload_n 1, 1) := by decide +kernel
theorem dX4_hasValue_2 : decode cX4_hasValue 2 = .ok (.invokevirtual 113, 3) := by decide +kernel
theorem dX4_hasValue_5 : decode cX4_hasValue 5 = .ok (.iload_n 2, 1) := by decide +kernel
theorem dX4_hasValue_6 : decode cX4_hasValue 6 = .ok (.invokevirtual 177, 3) := by decide +kernel
theorem dX4_hasValue_9 : decode cX4_hasValue 9 = .ok (.ireturn, 1) := by decide +kernel
theorem dX4_get_0 : decode cX4_get 0 = .ok (.aload_n 0, 1) := by decide +kernel
theorem dX4_get_1 : decode cX4_get 1 = .ok (.iload_n 1, 1) := by decide +kernel
theorem dX4_get_2 : decode cX4_get 2 = .ok (.invokevirtual 113, 3) := by decide +kernel
theorem dX4_get_5 : decode cX4_get 5 = .ok (.astore 4, 2) := by decide +kernel
theorem dX4_get_7 : decode cX4_get 7 = .ok (.aload 4, 2) := by decide +kernel
theorem dX4_get_9 : decode cX4_get 9 = .ok (.iload_n 2, 1) := by decide +kernel
theorem dX4_get_10 : decode cX4_get 10 = .ok (.invokevirtual 86, 3) := by decide +kernel
theorem dX4_get_13 : decode cX4_get 13 = .ok (.istore 5, 2) := by decide +kernel
theorem dX4_get_15 : decode cX4_get 15 = .ok (.iload 5, 2) := by decide +kernel
theorem dX4_get_17 : decode cX4_get 17 = .ok (.iconst (-1), 1) := by decide +kernel
theorem dX4_get_18 : decode cX4_get 18 = .ok (.if_icmp .ne 7, 3) := by decide +kernel
theorem dX4_get_21 : decode cX4_get 21 = .ok (.iload_n 3, 1) := by decide +kernel
theorem dX4_get_22 : decode cX4_get 22 = .ok (.goto 10, 3) := by decide +kernel
theorem dX4_get_25 : decode cX4_get 25 = .ok (.aload 4, 2) := by decide +kernel
theorem dX4_get_27 : decode cX4_get 27 = .ok (.iload 5, 2) := by decide +kernel
theorem dX4_get_29 : decode cX4_get 29 = .ok (.invokevirtual 93, 3) := by decide +kernel
theorem dX4_get_32 : decode cX4_get 32 = .ok (.ireturn, 1) := by decide +kernel
theorem dX4_keyAt_0 : decode cX4_keyAt 0 = .ok (.aload_n 0, 1) := by decide +kernel
theorem dX4_keyAt_1 : decode cX4_keyAt 1 = .ok (.iload_n 1, 1) := by decide +kernel
theorem dX4_keyAt_2 : decode cX4_keyAt 2 = .ok (.invokevirtual 113, 3) := by decide +kernel
theorem dX4_keyAt_5 : decode cX4_keyAt 5 = .ok (.astore_n 3, 1) := by decide +kernel
theorem dX4_keyAt_6 : decode cX4_keyAt 6 = .ok (.aload_n 0, 1) := by decide +kernel
theorem dX4_keyAt_7 : decode cX4_keyAt 7 = .ok (.aload_n 3, 1) := by decide +kernel
theorem dX4_keyAt_8 : decode cX4_keyAt 8 = .ok (.iload_n 2, 1) := by decide +kernel
theorem dX4_keyAt_9 : decode cX4_keyAt 9 = .ok (.invokevirtual 181, 3) := by decide +kernel
theorem dX4_keyAt_12 : decode cX4_keyAt 12 = .ok (.aload_n 3, 1) := by decide +kernel
theorem dX4_keyAt_13 : decode cX4_keyAt 13 = .ok (.iload_n 2, 1) := by decide +kernel
theorem dX4_keyAt_14 : decode cX4_keyAt 14 = .ok (.invokevirtual 132, 3) := by decide +kernel
theorem dX4_keyAt_17 : decode cX4_keyAt 17 = .ok (.ireturn, 1) := by decide +kernel
theorem dX4_valueAt_0 : decode cX4_valueAt 0 = .ok (.aload_n 0, 1) := by decide +kernel
theorem dX4_valueAt_1 : decode cX4_valueAt 1 = .ok (.iload_n 1, 1) := by decide +kernel
theorem dX4_valueAt_2 : decode cX4_valueAt 2 = .ok (.invokevirtual 113, 3) := by decide +kernel
theorem dX4_valueAt_5 : decode cX4_valueAt 5 = .ok (.astore_n 3, 1) := by decide +kernel
theorem dX4_valueAt_6 : decode cX4_valueAt 6 = .ok (.aload_n 0, 1) := by decide +kernel
theorem dX4_valueAt_7 : decode cX4_valueAt 7 = .ok (.aload_n 3, 1) := by decide +kernel
theorem dX4_valueAt_8 : decode cX4_valueAt 8 = .ok (.iload_n 2, 1) := by decide +kernel
theorem dX4_valueAt_9 : decode cX4_valueAt 9 = .ok (.invokevirtual 181, 3) := by decide +kernel
theorem dX4_valueAt_12 : decode cX4_valueAt 12 = .ok (.aload_n 3, 1) := by decide +kernel
theorem dX4_valueAt_13 : decode cX4_valueAt 13 = .ok (.iload_n 2, 1) := by decide +kernel
theorem dX4_valueAt_14 : decode cX4_valueAt 14 = .ok (.invokevirtual 93, 3) := by decide +kernel
theorem dX4_valueAt_17 : decode cX4_valueAt 17 = .ok (.ireturn, 1) := by decide +kernel
theorem dX4_placeOf_0 : decode cX4_placeOf 0 = .ok (.aload_n 0, 1) := by decide +kernel
theorem dX4_placeOf_1 : decode cX4_placeOf 1 = .ok (.iload_n 1, 1) := by decide +kernel
theorem dX4_placeOf_2 : decode cX4_placeOf 2 = .ok (.invokevirtual 113, 3) := by decide +kernel
theorem dX4_placeOf_5 : decode cX4_placeOf 5 = .ok (.iload_n 2, 1) := by decide +kernel
theorem dX4_placeOf_6 : decode cX4_placeOf 6 = .ok (.invokevirtual 86, 3) := by decide +kernel
theorem dX4_placeOf_9 : decode cX4_placeOf 9 = .ok (.ireturn, 1) := by decide +kernel
theorem dX4_areEqual_0 : decode cX4_areEqual 0 = .ok (.aload_n 0, 1) := by decide +kernel
theorem dX4_areEqual_1 : decode cX4_areEqual 1 = .ok (.iload_n 1, 1) := by decide +kernel
theorem dX4_areEqual_2 : decode cX4_areEqual 2 = .ok (.invokevirtual 113, 3) := by decide +kernel
theorem dX4_areEqual_5 : decode cX4_areEqual 5 = .ok (.aload_n 0, 1) := by decide +kernel
theorem dX4_areEqual_6 : decode cX4_areEqual 6 = .ok (.iload_n 2, 1) := by decide +kernel
theorem dX4_areEqual_7 : decode cX4_areEqual 7 = .ok (.invokevirtual 113, 3) := by decide +kernel
theorem dX4_areEqual_10 : decode cX4_areEqual 10 = .ok (.invokevirtual 184, 3) := by decide +kernel
theorem dX4_areEqual_13 : decode cX4_areEqual 13 = .ok (.ireturn, 1) := by decide +kernel
theorem dX4_areAlike_0 : decode cX4_areAlike 0 = .ok (.aload_n 0, 1) := by decide +kernel
theorem dX4_areAlike_1 : decode cX4_areAlike 1 = .ok (.iload_n 1, 1) := by decide +kernel
theorem dX4_areAlike_2 : decode cX4_areAlike 2 = .ok (.invokevirtual 113, 3) := by decide +kernel
theorem dX4_areAlike_5 : decode cX4_areAlike 5 = .ok (.aload_n 0, 1) := by decide +kernel
theorem dX4_areAlike_6 : decode cX4_areAlike 6 = .ok (.iload_n 2, 1) := by decide +kernel
theorem dX4_areAlike_7 : decode cX4_areAlike 7 = .ok (.invokevirtual 113, 3) := by decide +kernel
theorem dX4_areAlike_10 : decode cX4_areAlike 10 = .ok (.invokevirtual 188, 3) := by decide +kernel
theorem dX4_areAlike_13 : decode cX4_areAlike 13 = .ok (.ireturn, 1) := by decide +kernel
theorem dX4_hash_0 : decode cX4_hash 0 = .ok (.aload_n 0, 1) := by decide +kernel
theorem dX4_hash_1 : decode cX4_hash 1 = .ok (.iload_n 1, 1) := by decide +kernel
theorem dX4_hash_2 : decode cX4_hash 2 = .ok (.invokevirtual 113, 3) := by decide +kernel
theorem dX4_hash_5 : decode cX4_hash 5 = .ok (.invokevirtual 191, 3) := by decide +kernel
theorem dX4_hash_8 : decode cX4_hash 8 = .ok (.ireturn, 1) := by decide +kernel
theorem dX4_sum_0 : decode cX4_sum 0 = .ok (.aload_n 0, 1) := by decide +kernel
theorem dX4_sum_1 : decode cX4_sum 1 = .ok (.iload_n 1, 1) := by decide +kernel
theorem dX4_sum_2 : decode cX4_sum 2 = .ok (.invokevirtual 113, 3) := by decide +kernel
theorem dX4_sum_5 : decode cX4_sum 5 = .ok (.astore_n 2, 1) := by decide +kernel
theorem dX4_sum_6 : decode cX4_sum 6 = .ok (.lconst 0, 1) := by decide +kernel
theorem dX4_sum_7 : decode cX4_sum 7 = .ok (.lstore_n 3, 1) := by decide +kernel
theorem dX4_sum_8 : decode cX4_sum 8 = .ok (.iconst 0, 1) := by decide +kernel
theorem dX4_sum_9 : decode cX4_sum 9 = .ok (.istore 5, 2) := by decide +kernel
theorem dX4_sum_11 : decode cX4_sum 11 = .ok (.iload 5, 2) := by decide +kernel
theorem dX4_sum_13 : decode cX4_sum 13 = .ok (.aload_n 2, 1) := by decide +kernel
theorem dX4_sum_14 : decode cX4_sum 14 = .ok (.getfield 57, 3) := by decide +kernel
theorem dX4_sum_17 : decode cX4_sum 17 = .ok (.if_icmp .ge 37, 3) := by decide +kernel
theorem dX4_sum_20 : decode cX4_sum 20 = .ok (.lload_n 3, 1) := by decide +kernel
theorem dX4_sum_21 : decode cX4_sum 21 = .ok (.iload 5, 2) := by decide +kernel
theorem dX4_sum_23 : decode cX4_sum 23 = .ok (.i2l, 1) := by decide +kernel
theorem dX4_sum_24 : decode cX4_sum 24 = .ok (.lconst 1, 1) := by decide +kernel
theorem dX4_sum_25 : decode cX4_sum 25 = .ok (.ladd, 1) := by decide +kernel
theorem dX4_sum_26 : decode cX4_sum 26 = .ok (.aload_n 2, 1) := by decide +kernel
theorem dX4_sum_27 : decode cX4_sum 27 = .ok (.iload 5, 2) := by decide +kernel
theorem dX4_sum_29 : decode cX4_sum 29 = .ok (.invokevirtual 132, 3) := by decide +kernel
theorem dX4_sum_32 : decode cX4_sum 32 = .ok (.i2l, 1) := by decide +kernel
theorem dX4_sum_33 : decode cX4_sum 33 = .ok (.ldc2_w 194, 3) := by decide +kernel
theorem dX4_sum_36 : decode cX4_sum 36 = .ok (.aload_n 2, 1) := by decide +kernel
theorem dX4_sum_37 : decode cX4_sum 37 = .ok (.iload 5, 2) := by decide +kernel
theorem dX4_sum_39 : decode cX4_sum 39 = .ok (.invokevirtual 93, 3) := by decide +kernel
theorem dX4_sum_42 : decode cX4_sum 42 = .ok (.i2l, 1) := by decide +kernel
theorem dX4_sum_43 : decode cX4_sum 43 = .ok (.lmul, 1) := by decide +kernel
theorem dX4_sum_44 : decode cX4_sum 44 = .ok (.ladd, 1) := by decide +kernel
theorem dX4_sum_45 : decode cX4_sum 45 = .ok (.lmul, 1) := by decide +kernel
theorem dX4_sum_46 : decode cX4_sum 46 = .ok (.ladd, 1) := by decide +kernel
theorem dX4_sum_47 : decode cX4_sum 47 = .ok (.lstore_n 3, 1) := by decide +kernel
theorem dX4_sum_48 : decode cX4_sum 48 = .ok (.iinc 5 1, 3) := by decide +kernel
theorem dX4_sum_51 : decode cX4_sum 51 = .ok (.goto (-40), 3) := by decide +kernel
theorem dX4_sum_54 : decode cX4_sum 54 = .ok (.lload_n 3, 1) := by decide +kernel
theorem dX4_sum_55 : decode cX4_sum 55 = .ok (.lreturn, 1) := by decide +kernel
theorem dX4_write_0 : decode cX4_write 0 = .ok (.aload_n 0, 1) := by decide +kernel
theorem dX4_write_1 : decode cX4_write 1 = .ok (.iload_n 1, 1) := by decide +kernel
theorem dX4_write_2 : decode cX4_write 2 = .ok (.invokevirtual 113, 3) := by decide +kernel
theorem dX4_write_5 : decode cX4_write 5 = .ok (.astore_n 2, 1) := by decide +kernel
theorem dX4_write_6 : decode cX4_write 6 = .ok (.aload_n 0, 1) := by decide +kernel
theorem dX4_write_7 : decode cX4_write 7 = .ok (.getfield 46, 3) := by decide +kernel
theorem dX4_write_10 : decode cX4_write 10 = .ok (.invokevirtual 196, 3) := by decide +kernel
theorem dX4_write_13 : decode cX4_write 13 = .ok (.aload_n 0, 1) := by decide +kernel
theorem dX4_write_14 : decode cX4_write 14 = .ok (.getfield 46, 3) := by decide +kernel
theorem dX4_write_17 : decode cX4_write 17 = .ok (.bipush 123, 2) := by decide +kernel
theorem dX4_write_19 : decode cX4_write 19 = .ok (.invokevirtual 199, 3) := by decide +kernel
theorem dX4_write_22 : decode cX4_write 22 = .ok (.iconst 0, 1) := by decide +kernel
theorem dX4_write_23 : decode cX4_write 23 = .ok (.istore_n 3, 1) := by decide +kernel
theorem dX4_write_24 : decode cX4_write 24 = .ok (.iload_n 3, 1) := by decide +kernel
theorem dX4_write_25 : decode cX4_write 25 = .ok (.aload_n 2, 1) := by decide +kernel
theorem dX4_write_26 : decode cX4_write 26 = .ok (.getfield 57, 3) := by decide +kernel
theorem dX4_write_29 : decode cX4_write 29 = .ok (.if_icmp .ge 64, 3) := by decide +kernel
theorem dX4_write_32 : decode cX4_write 32 = .ok (.iload_n 3, 1) := by decide +kernel
theorem dX4_write_33 : decode cX4_write 33 = .ok (.ifCond .le 21, 3) := by decide +kernel
theorem dX4_write_36 : decode cX4_write 36 = .ok (.aload_n 0, 1) := by decide +kernel
theorem dX4_write_37 : decode cX4_write 37 = .ok (.getfield 46, 3) := by decide +kernel
theorem dX4_write_40 : decode cX4_write 40 = .ok (.bipush 44, 2) := by decide +kernel
theorem dX4_write_42 : decode cX4_write 42 = .ok (.invokevirtual 199, 3) := by decide +kernel
theorem dX4_write_45 : decode cX4_write 45 = .ok (.aload_n 0, 1) := by decide +kernel
theorem dX4_write_46 : decode cX4_write 46 = .ok (.getfield 46, 3) := by decide +kernel
theorem dX4_write_49 : decode cX4_write 49 = .ok (.bipush 32, 2) := by decide +kernel
theorem dX4_write_51 : decode cX4_write 51 = .ok (.invokevirtual 199, 3) := by decide +kernel
theorem dX4_write_54 : decode cX4_write 54 = .ok (.aload_n 0, 1) := by decide +kernel
theorem dX4_write_55 : decode cX4_write 55 = .ok (.getfield 46, 3) := by decide +kernel
theorem dX4_write_58 : decode cX4_write 58 = .ok (.aload_n 2, 1) := by decide +kernel
theorem dX4_write_59 : decode cX4_write 59 = .ok (.iload_n 3, 1) := by decide +kernel
theorem dX4_write_60 : decode cX4_write 60 = .ok (.invokevirtual 132, 3) := by decide +kernel
theorem dX4_write_63 : decode cX4_write 63 = .ok (.invokevirtual 203, 3) := by decide +kernel
theorem dX4_write_66 : decode cX4_write 66 = .ok (.aload_n 0, 1) := by decide +kernel
theorem dX4_write_67 : decode cX4_write 67 = .ok (.getfield 46, 3) := by decide +kernel
theorem dX4_write_70 : decode cX4_write 70 = .ok (.bipush 61, 2) := by decide +kernel
theorem dX4_write_72 : decode cX4_write 72 = .ok (.invokevirtual 199, 3) := by decide +kernel
theorem dX4_write_75 : decode cX4_write 75 = .ok (.aload_n 0, 1) := by decide +kernel
theorem dX4_write_76 : decode cX4_write 76 = .ok (.getfield 46, 3) := by decide +kernel
theorem dX4_write_79 : decode cX4_write 79 = .ok (.aload_n 2, 1) := by decide +kernel
theorem dX4_write_80 : decode cX4_write 80 = .ok (.iload_n 3, 1) := by decide +kernel
theorem dX4_write_81 : decode cX4_write 81 = .ok (.invokevirtual 93, 3) := by decide +kernel
theorem dX4_write_84 : decode cX4_write 84 = .ok (.invokevirtual 203, 3) := by decide +kernel
theorem dX4_write_87 : decode cX4_write 87 = .ok (.iinc 3 1, 3) := by decide +kernel
theorem dX4_write_90 : decode cX4_write 90 = .ok (.goto (-66), 3) := by decide +kernel
theorem dX4_write_93 : decode cX4_write 93 = .ok (.aload_n 0, 1) := by decide +kernel
theorem dX4_write_94 : decode cX4_write 94 = .ok (.getfield 46, 3) := by decide +kernel
theorem dX4_write_97 : decode cX4_write 97 = .ok (.bipush 125, 2) := by decide +kernel
theorem dX4_write_99 : decode cX4_write 99 = .ok (.invokevirtual 199, 3) := by decide +kernel
theorem dX4_write_102 : decode cX4_write 102 = .ok (.aload_n 0, 1) := by decide +kernel
theorem dX4_write_103 : decode cX4_write 103 = .ok (.getfield 46, 3) := by decide +kernel
theorem dX4_write_106 : decode cX4_write 106 = .ok (.getfield 206, 3) := by decide +kernel
theorem dX4_write_109 : decode cX4_write 109 = .ok (.ireturn, 1) := by decide +kernel
theorem dX4_outputAt_0 : decode cX4_outputAt 0 = .ok (.aload_n 0, 1) := by decide +kernel
theorem dX4_outputAt_1 : decode cX4_outputAt 1 = .ok (.getfield 46, 3) := by decide +kernel
theorem dX4_outputAt_4 : decode cX4_outputAt 4 = .ok (.iload_n 1, 1) := by decide +kernel
theorem dX4_outputAt_5 : decode cX4_outputAt 5 = .ok (.invokevirtual 209, 3) := by decide +kernel
theorem dX4_outputAt_8 : decode cX4_outputAt 8 = .ok (.ifCond .ne 13, 3) := by decide +kernel
theorem dX4_outputAt_11 : decode cX4_outputAt 11 = .ok (.new 103, 3) := by decide +kernel
theorem dX4_outputAt_14 : decode cX4_outputAt 14 = .ok (.dup, 1) := by decide +kernel
theorem dX4_outputAt_15 : decode cX4_outputAt 15 = .ok (.ldc 212, 2) := by decide +kernel
theorem dX4_outputAt_17 : decode cX4_outputAt 17 = .ok (.invokespecial 107, 3) := by decide +kernel
theorem dX4_outputAt_20 : decode cX4_outputAt 20 = .ok (.athrow, 1) := by decide +kernel
theorem dX4_outputAt_21 : decode cX4_outputAt 21 = .ok (.aload_n 0, 1) := by decide +kernel
theorem dX4_outputAt_22 : decode cX4_outputAt 22 = .ok (.getfield 46, 3) := by decide +kernel
theorem dX4_outputAt_25 : decode cX4_outputAt 25 = .ok (.iload_n 1, 1) := by decide +kernel
theorem dX4_outputAt_26 : decode cX4_outputAt 26 = .ok (.invokevirtual 214, 3) := by decide +kernel
theorem dX4_outputAt_29 : decode cX4_outputAt 29 = .ok (.ireturn, 1) := by decide +kernel
theorem dX4_isAddRefused_0 : decode cX4_isAddRefused 0 = .ok (.aload_n 0, 1) := by decide +kernel
theorem dX4_isAddRefused_1 : decode cX4_isAddRefused 1 = .ok (.iload_n 1, 1) := by decide +kernel
theorem dX4_isAddRefused_2 : decode cX4_isAddRefused 2 = .ok (.invokevirtual 113, 3) := by decide +kernel
theorem dX4_isAddRefused_5 : decode cX4_isAddRefused 5 = .ok (.pop, 1) := by decide +kernel
theorem dX4_isAddRefused_6 : decode cX4_isAddRefused 6 = .ok (.aload_n 0, 1) := by decide +kernel
theorem dX4_isAddRefused_7 : decode cX4_isAddRefused 7 = .ok (.iload_n 2, 1) := by decide +kernel
theorem dX4_isAddRefused_8 : decode cX4_isAddRefused 8 = .ok (.invokevirtual 141, 3) := by decide +kernel
theorem dX4_isAddRefused_11 : decode cX4_isAddRefused 11 = .ok (.iconst 1, 1) := by decide +kernel
theorem dX4_isAddRefused_12 : decode cX4_isAddRefused 12 = .ok (.ireturn, 1) := by decide +kernel
theorem dX4_isNothingRefused_0 : decode cX4_isNothingRefused 0 = .ok (.aload_n 0, 1) := by decide +kernel
theorem dX4_isNothingRefused_1 : decode cX4_isNothingRefused 1 = .ok (.iload_n 1, 1) := by decide +kernel
theorem dX4_isNothingRefused_2 : decode cX4_isNothingRefused 2 = .ok (.invokevirtual 83, 3) := by decide +kernel
theorem dX4_isNothingRefused_5 : decode cX4_isNothingRefused 5 = .ok (.pop, 1) := by decide +kernel
theorem dX4_isNothingRefused_6 : decode cX4_isNothingRefused 6 = .ok (.iconst 1, 1) := by decide +kernel
theorem dX4_isNothingRefused_7 : decode cX4_isNothingRefused 7 = .ok (.ireturn, 1) := by decide +kernel
theorem dX4_mean_0 : decode cX4_mean 0 = .ok (.aload_n 0, 1) := by decide +kernel
theorem dX4_mean_1 : decode cX4_mean 1 = .ok (.iload_n 1, 1) := by decide +kernel
theorem dX4_mean_2 : decode cX4_mean 2 = .ok (.invokevirtual 113, 3) := by decide +kernel
theorem dX4_mean_5 : decode cX4_mean 5 = .ok (.astore_n 2, 1) := by decide +kernel
theorem dX4_mean_6 : decode cX4_mean 6 = .ok (.aload_n 2, 1) := by decide +kernel
theorem dX4_mean_7 : decode cX4_mean 7 = .ok (.getfield 57, 3) := by decide +kernel
theorem dX4_mean_10 : decode cX4_mean 10 = .ok (.ifCond .ne 5, 3) := by decide +kernel
theorem dX4_mean_13 : decode cX4_mean 13 = .ok (.dconst 0, 1) := by decide +kernel
theorem dX4_mean_14 : decode cX4_mean 14 = .ok (.dreturn, 1) := by decide +kernel
theorem dX4_mean_15 : decode cX4_mean 15 = .ok (.lconst 0, 1) := by decide +kernel
theorem dX4_mean_16 : decode cX4_mean 16 = .ok (.lstore_n 3, 1) := by decide +kernel
theorem dX4_mean_17 : decode cX4_mean 17 = .ok (.iconst 0, 1) := by decide +kernel
theorem dX4_mean_18 : decode cX4_mean 18 = .ok (.istore 5, 2) := by decide +kernel
theorem dX4_mean_20 : decode cX4_mean 20 = .ok (.iload 5, 2) := by decide +kernel
theorem dX4_mean_22 : decode cX4_mean 22 = .ok (.aload_n 2, 1) := by decide +kernel
theorem dX4_mean_23 : decode cX4_mean 23 = .ok (.getfield 57, 3) := by decide +kernel
theorem dX4_mean_26 : decode cX4_mean 26 = .ok (.if_icmp .ge 19, 3) := by decide +kernel
theorem dX4_mean_29 : decode cX4_mean 29 = .ok (.lload_n 3, 1) := by decide +kernel
theorem dX4_mean_30 : decode cX4_mean 30 = .ok (.aload_n 2, 1) := by decide +kernel
theorem dX4_mean_31 : decode cX4_mean 31 = .ok (.iload 5, 2) := by decide +kernel
theorem dX4_mean_33 : decode cX4_mean 33 = .ok (.invokevirtual 93, 3) := by decide +kernel
theorem dX4_mean_36 : decode cX4_mean 36 = .ok (.i2l, 1) := by decide +kernel
theorem dX4_mean_37 : decode cX4_mean 37 = .ok (.ladd, 1) := by decide +kernel
theorem dX4_mean_38 : decode cX4_mean 38 = .ok (.lstore_n 3, 1) := by decide +kernel
theorem dX4_mean_39 : decode cX4_mean 39 = .ok (.iinc 5 1, 3) := by decide +kernel
theorem dX4_mean_42 : decode cX4_mean 42 = .ok (.goto (-22), 3) := by decide +kernel
theorem dX4_mean_45 : decode cX4_mean 45 = .ok (.lload_n 3, 1) := by decide +kernel
theorem dX4_mean_46 : decode cX4_mean 46 = .ok (.l2d, 1) := by decide +kernel
theorem dX4_mean_47 : decode cX4_mean 47 = .ok (.aload_n 2, 1) := by decide +kernel
theorem dX4_mean_48 : decode cX4_mean 48 = .ok (.getfield 57, 3) := by decide +kernel
theorem dX4_mean_51 : decode cX4_mean 51 = .ok (.i2d, 1) := by decide +kernel
theorem dX4_mean_52 : decode cX4_mean 52 = .ok (.ddiv, 1) := by decide +kernel
theorem dX4_mean_53 : decode cX4_mean 53 = .ok (.dreturn, 1) := by decide +kernel
theorem dX4_fullness_0 : decode cX4_fullness 0 = .ok (.aload_n 0, 1) := by decide +kernel
theorem dX4_fullness_1 : decode cX4_fullness 1 = .ok (.getfield 21, 3) := by decide +kernel
theorem dX4_fullness_4 : decode cX4_fullness 4 = .ok (.getfield 64, 3) := by decide +kernel
theorem dX4_fullness_7 : decode cX4_fullness 7 = .ok (.ifCond .ne 5, 3) := by decide +kernel
theorem dX4_fullness_10 : decode cX4_fullness 10 = .ok (.fconst 0, 1) := by decide +kernel
theorem dX4_fullness_11 : decode cX4_fullness 11 = .ok (.freturn, 1) := by decide +kernel
theorem dX4_fullness_12 : decode cX4_fullness 12 = .ok (.aload_n 0, 1) := by decide +kernel
theorem dX4_fullness_13 : decode cX4_fullness 13 = .ok (.getfield 21, 3) := by decide +kernel
theorem dX4_fullness_16 : decode cX4_fullness 16 = .ok (.getfield 57, 3) := by decide +kernel
theorem dX4_fullness_19 : decode cX4_fullness 19 = .ok (.i2f, 1) := by decide +kernel
theorem dX4_fullness_20 : decode cX4_fullness 20 = .ok (.aload_n 0, 1) := by decide +kernel
theorem dX4_fullness_21 : decode cX4_fullness 21 = .ok (.getfield 21, 3) := by decide +kernel
theorem dX4_fullness_24 : decode cX4_fullness 24 = .ok (.getfield 64, 3) := by decide +kernel
theorem dX4_fullness_27 : decode cX4_fullness 27 = .ok (.i2f, 1) := by decide +kernel
theorem dX4_fullness_28 : decode cX4_fullness 28 = .ok (.fdiv, 1) := by decide +kernel
theorem dX4_fullness_29 : decode cX4_fullness 29 = .ok (.freturn, 1) := by decide +kernel
theorem dX4_errors_0 : decode cX4_errors 0 = .ok (.iconst 0, 1) := by decide +kernel
theorem dX4_errors_1 : decode cX4_errors 1 = .ok (.istore_n 1, 1) := by decide +kernel
theorem dX4_errors_2 : decode cX4_errors 2 = .ok (.iconst 0, 1) := by decide +kernel
theorem dX4_errors_3 : decode cX4_errors 3 = .ok (.istore_n 2, 1) := by decide +kernel
theorem dX4_errors_4 : decode cX4_errors 4 = .ok (.iload_n 2, 1) := by decide +kernel
theorem dX4_errors_5 : decode cX4_errors 5 = .ok (.iconst 4, 1) := by decide +kernel
theorem dX4_errors_6 : decode cX4_errors 6 = .ok (.if_icmp .ge 24, 3) := by decide +kernel
theorem dX4_errors_9 : decode cX4_errors 9 = .ok (.aload_n 0, 1) := by decide +kernel
theorem dX4_errors_10 : decode cX4_errors 10 = .ok (.aload_n 0, 1) := by decide +kernel
theorem dX4_errors_11 : decode cX4_errors 11 = .ok (.iload_n 2, 1) := by decide +kernel
theorem dX4_errors_12 : decode cX4_errors 12 = .ok (.invokevirtual 113, 3) := by decide +kernel
theorem dX4_errors_15 : decode cX4_errors 15 = .ok (.invokevirtual 217, 3) := by decide +kernel
theorem dX4_errors_18 : decode cX4_errors 18 = .ok (.ifCond .ne 6, 3) := by decide +kernel
theorem dX4_errors_21 : decode cX4_errors 21 = .ok (.iinc 1 1, 3) := by decide +kernel
theorem dX4_errors_24 : decode cX4_errors 24 = .ok (.iinc 2 1, 3) := by decide +kernel
theorem dX4_errors_27 : decode cX4_errors 27 = .ok (.goto (-23), 3) := by decide +kernel
theorem dX4_errors_30 : decode cX4_errors 30 = .ok (.iload_n 1, 1) := by decide +kernel
theorem dX4_errors_31 : decode cX4_errors 31 = .ok (.ireturn, 1) := by decide +kernel
theorem dX4_isAsTheTheoremTells_0 : decode cX4_isAsTheTheoremTells 0 = .ok (.aload_n 1, 1) := by decide +kernel
theorem dX4_isAsTheTheoremTells_1 : decode cX4_isAsTheTheoremTells 1 = .ok (.getfield 220, 3) := by decide +kernel
theorem dX4_isAsTheTheoremTells_4 : decode cX4_isAsTheTheoremTells 4 = .ok (.aload_n 1, 1) := by decide +kernel
theorem dX4_isAsTheTheoremTells_5 : decode cX4_isAsTheTheoremTells 5 = .ok (.invokevirtual 224, 3) := by decide +kernel
theorem dX4_isAsTheTheoremTells_8 : decode cX4_isAsTheTheoremTells 8 = .ok (.ifCond .eq 23, 3) := by decide +kernel
theorem dX4_isAsTheTheoremTells_11 : decode cX4_isAsTheTheoremTells 11 = .ok (.aload_n 0, 1) := by decide +kernel
theorem dX4_isAsTheTheoremTells_12 : decode cX4_isAsTheTheoremTells 12 = .ok (.aload_n 1, 1) := by decide +kernel
theorem dX4_isAsTheTheoremTells_13 : decode cX4_isAsTheTheoremTells 13 = .ok (.invokevirtual 229, 3) := by decide +kernel
theorem dX4_isAsTheTheoremTells_16 : decode cX4_isAsTheTheoremTells 16 = .ok (.ifCond .eq 15, 3) := by decide +kernel
theorem dX4_isAsTheTheoremTells_19 : decode cX4_isAsTheTheoremTells 19 = .ok (.aload_n 0, 1) := by decide +kernel
theorem dX4_isAsTheTheoremTells_20 : decode cX4_isAsTheTheoremTells 20 = .ok (.aload_n 1, 1) := by decide +kernel
theorem dX4_isAsTheTheoremTells_21 : decode cX4_isAsTheTheoremTells 21 = .ok (.invokevirtual 232, 3) := by decide +kernel
theorem dX4_isAsTheTheoremTells_24 : decode cX4_isAsTheTheoremTells 24 = .ok (.ifCond .eq 7, 3) := by decide +kernel
theorem dX4_isAsTheTheoremTells_27 : decode cX4_isAsTheTheoremTells 27 = .ok (.iconst 1, 1) := by decide +kernel
theorem dX4_isAsTheTheoremTells_28 : decode cX4_isAsTheTheoremTells 28 = .ok (.goto 4, 3) := by decide +kernel
theorem dX4_isAsTheTheoremTells_31 : decode cX4_isAsTheTheoremTells 31 = .ok (.iconst 0, 1) := by decide +kernel
theorem dX4_isAsTheTheoremTells_32 : decode cX4_isAsTheTheoremTells 32 = .ok (.ireturn, 1) := by decide +kernel
theorem dX4_isCopyInOrder_0 : decode cX4_isCopyInOrder 0 = .ok (.aload_n 0, 1) := by decide +kernel
theorem dX4_isCopyInOrder_1 : decode cX4_isCopyInOrder 1 = .ok (.getfield 27, 3) := by decide +kernel
theorem dX4_isCopyInOrder_4 : decode cX4_isCopyInOrder 4 = .ok (.aload_n 1, 1) := by decide +kernel
theorem dX4_isCopyInOrder_5 : decode cX4_isCopyInOrder 5 = .ok (.invokevirtual 127, 3) := by decide +kernel
theorem dX4_isCopyInOrder_8 : decode cX4_isCopyInOrder 8 = .ok (.aload_n 0, 1) := by decide +kernel
theorem dX4_isCopyInOrder_9 : decode cX4_isCopyInOrder 9 = .ok (.getfield 27, 3) := by decide +kernel
theorem dX4_isCopyInOrder_12 : decode cX4_isCopyInOrder 12 = .ok (.aload_n 1, 1) := by decide +kernel
theorem dX4_isCopyInOrder_13 : decode cX4_isCopyInOrder 13 = .ok (.invokevirtual 188, 3) := by decide +kernel
theorem dX4_isCopyInOrder_16 : decode cX4_isCopyInOrder 16 = .ok (.ireturn, 1) := by decide +kernel
theorem dX4_isEqualInOppositeOrder_0 : decode cX4_isEqualInOppositeOrder 0 = .ok (.aload_n 0, 1) := by decide +kernel
theorem dX4_isEqualInOppositeOrder_1 : decode cX4_isEqualInOppositeOrder 1 = .ok (.getfield 27, 3) := by decide +kernel
theorem dX4_isEqualInOppositeOrder_4 : decode cX4_isEqualInOppositeOrder 4 = .ok (.invokevirtual 61, 3) := by decide +kernel
theorem dX4_isEqualInOppositeOrder_7 : decode cX4_isEqualInOppositeOrder 7 = .ok (.aload_n 1, 1) := by decide +kernel
theorem dX4_isEqualInOppositeOrder_8 : decode cX4_isEqualInOppositeOrder 8 = .ok (.getfield 57, 3) := by decide +kernel
theorem dX4_isEqualInOppositeOrder_11 : decode cX4_isEqualInOppositeOrder 11 = .ok (.iconst 1, 1) := by decide +kernel
theorem dX4_isEqualInOppositeOrder_12 : decode cX4_isEqualInOppositeOrder 12 = .ok (.isub, 1) := by decide +kernel
theorem dX4_isEqualInOppositeOrder_13 : decode cX4_isEqualInOppositeOrder 13 = .ok (.istore_n 2, 1) := by decide +kernel
theorem dX4_isEqualInOppositeOrder_14 : decode cX4_isEqualInOppositeOrder 14 = .ok (.iload_n 2, 1) := by decide +kernel
theorem dX4_isEqualInOppositeOrder_15 : decode cX4_isEqualInOppositeOrder 15 = .ok (.ifCond .lt 26, 3) := by decide +kernel
theorem dX4_isEqualInOppositeOrder_18 : decode cX4_isEqualInOppositeOrder 18 = .ok (.aload_n 0, 1) := by decide +kernel
theorem dX4_isEqualInOppositeOrder_19 : decode cX4_isEqualInOppositeOrder 19 = .ok (.getfield 27, 3) := by decide +kernel
theorem dX4_isEqualInOppositeOrder_22 : decode cX4_isEqualInOppositeOrder 22 = .ok (.aload_n 1, 1) := by decide +kernel
theorem dX4_isEqualInOppositeOrder_23 : decode cX4_isEqualInOppositeOrder 23 = .ok (.iload_n 2, 1) := by decide +kernel
theorem dX4_isEqualInOppositeOrder_24 : decode cX4_isEqualInOppositeOrder 24 = .ok (.invokevirtual 132, 3) := by decide +kernel
theorem dX4_isEqualInOppositeOrder_27 : decode cX4_isEqualInOppositeOrder 27 = .ok (.aload_n 1, 1) := by decide +kernel
theorem dX4_isEqualInOppositeOrder_28 : decode cX4_isEqualInOppositeOrder 28 = .ok (.iload_n 2, 1) := by decide +kernel
theorem dX4_isEqualInOppositeOrder_29 : decode cX4_isEqualInOppositeOrder 29 = .ok (.invokevirtual 93, 3) := by decide +kernel
theorem dX4_isEqualInOppositeOrder_32 : decode cX4_isEqualInOppositeOrder 32 = .ok (.invokevirtual 90, 3) := by decide +kernel
theorem dX4_isEqualInOppositeOrder_35 : decode cX4_isEqualInOppositeOrder 35 = .ok (.iinc 2 (-1), 3) := by decide +kernel
theorem dX4_isEqualInOppositeOrder_38 : decode cX4_isEqualInOppositeOrder 38 = .ok (.goto (-24), 3) := by decide +kernel
theorem dX4_isEqualInOppositeOrder_41 : decode cX4_isEqualInOppositeOrder 41 = .ok (.aload_n 0, 1) := by decide +kernel
theorem dX4_isEqualInOppositeOrder_42 : decode cX4_isEqualInOppositeOrder 42 = .ok (.getfield 27, 3) := by decide +kernel
theorem dX4_isEqualInOppositeOrder_45 : decode cX4_isEqualInOppositeOrder 45 = .ok (.aload_n 1, 1) := by decide +kernel
theorem dX4_isEqualInOppositeOrder_46 : decode cX4_isEqualInOppositeOrder 46 = .ok (.invokevirtual 184, 3) := by decide +kernel
theorem dX4_isEqualInOppositeOrder_49 : decode cX4_isEqualInOppositeOrder 49 = .ok (.ifCond .eq 21, 3) := by decide +kernel
theorem dX4_isEqualInOppositeOrder_52 : decode cX4_isEqualInOppositeOrder 52 = .ok (.aload_n 0, 1) := by decide +kernel
theorem dX4_isEqualInOppositeOrder_53 : decode cX4_isEqualInOppositeOrder 53 = .ok (.getfield 27, 3) := by decide +kernel
theorem dX4_isEqualInOppositeOrder_56 : decode cX4_isEqualInOppositeOrder 56 = .ok (.invokevirtual 191, 3) := by decide +kernel
theorem dX4_isEqualInOppositeOrder_59 : decode cX4_isEqualInOppositeOrder 59 = .ok (.aload_n 1, 1) := by decide +kernel
theorem dX4_isEqualInOppositeOrder_60 : decode cX4_isEqualInOppositeOrder 60 = .ok (.invokevirtual 191, 3) := by decide +kernel
theorem dX4_isEqualInOppositeOrder_63 : decode cX4_isEqualInOppositeOrder 63 = .ok (.if_icmp .ne 7, 3) := by decide +kernel
theorem dX4_isEqualInOppositeOrder_66 : decode cX4_isEqualInOppositeOrder 66 = .ok (.iconst 1, 1) := by decide +kernel
theorem dX4_isEqualInOppositeOrder_67 : decode cX4_isEqualInOppositeOrder 67 = .ok (.goto 4, 3) := by decide +kernel
theorem dX4_isEqualInOppositeOrder_70 : decode cX4_isEqualInOppositeOrder 70 = .ok (.iconst 0, 1) := by decide +kernel
theorem dX4_isEqualInOppositeOrder_71 : decode cX4_isEqualInOppositeOrder 71 = .ok (.ireturn, 1) := by decide +kernel
theorem dX4_bookOfNumber_0 : decode cX4_bookOfNumber 0 = .ok (.iload_n 1, 1) := by decide +kernel
theorem dX4_bookOfNumber_1 : decode cX4_bookOfNumber 1 = .ok (.tableswitch 51 0 3 #[31, 36, 41, 46], 31) := by decide +kernel
theorem dX4_bookOfNumber_32 : decode cX4_bookOfNumber 32 = .ok (.aload_n 0, 1) := by decide +kernel
theorem dX4_bookOfNumber_33 : decode cX4_bookOfNumber 33 = .ok (.getfield 14, 3) := by decide +kernel
theorem dX4_bookOfNumber_36 : decode cX4_bookOfNumber 36 = .ok (.areturn, 1) := by decide +kernel
theorem dX4_bookOfNumber_37 : decode cX4_bookOfNumber 37 = .ok (.aload_n 0, 1) := by decide +kernel
theorem dX4_bookOfNumber_38 : decode cX4_bookOfNumber 38 = .ok (.getfield 18, 3) := by decide +kernel
theorem dX4_bookOfNumber_41 : decode cX4_bookOfNumber 41 = .ok (.areturn, 1) := by decide +kernel
theorem dX4_bookOfNumber_42 : decode cX4_bookOfNumber 42 = .ok (.aload_n 0, 1) := by decide +kernel
theorem dX4_bookOfNumber_43 : decode cX4_bookOfNumber 43 = .ok (.getfield 21, 3) := by decide +kernel
theorem dX4_bookOfNumber_46 : decode cX4_bookOfNumber 46 = .ok (.areturn, 1) := by decide +kernel
theorem dX4_bookOfNumber_47 : decode cX4_bookOfNumber 47 = .ok (.aload_n 0, 1) := by decide +kernel
theorem dX4_bookOfNumber_48 : decode cX4_bookOfNumber 48 = .ok (.getfield 24, 3) := by decide +kernel
theorem dX4_bookOfNumber_51 : decode cX4_bookOfNumber 51 = .ok (.areturn, 1) := by decide +kernel
theorem dX4_bookOfNumber_52 : decode cX4_bookOfNumber 52 = .ok (.new 235, 3) := by decide +kernel
theorem dX4_bookOfNumber_55 : decode cX4_bookOfNumber 55 = .ok (.dup, 1) := by decide +kernel
theorem dX4_bookOfNumber_56 : decode cX4_bookOfNumber 56 = .ok (.ldc 237, 2) := by decide +kernel
theorem dX4_bookOfNumber_58 : decode cX4_bookOfNumber 58 = .ok (.invokespecial 239, 3) := by decide +kernel
theorem dX4_bookOfNumber_61 : decode cX4_bookOfNumber 61 = .ok (.athrow, 1) := by decide +kernel
theorem dX4_bookChangedByHand_0 : decode cX4_bookChangedByHand 0 = .ok (.aload_n 0, 1) := by decide +kernel
theorem dX4_bookChangedByHand_1 : decode cX4_bookChangedByHand 1 = .ok (.iload_n 1, 1) := by decide +kernel
theorem dX4_bookChangedByHand_2 : decode cX4_bookChangedByHand 2 = .ok (.invokevirtual 113, 3) := by decide +kernel
theorem dX4_bookChangedByHand_5 : decode cX4_bookChangedByHand 5 = .ok (.astore_n 2, 1) := by decide +kernel
theorem dX4_bookChangedByHand_6 : decode cX4_bookChangedByHand 6 = .ok (.iload_n 1, 1) := by decide +kernel
theorem dX4_bookChangedByHand_7 : decode cX4_bookChangedByHand 7 = .ok (.iconst 3, 1) := by decide +kernel
theorem dX4_bookChangedByHand_8 : decode cX4_bookChangedByHand 8 = .ok (.if_icmp .ne 13, 3) := by decide +kernel
theorem dX4_bookChangedByHand_11 : decode cX4_bookChangedByHand 11 = .ok (.new 50, 3) := by decide +kernel
theorem dX4_bookChangedByHand_14 : decode cX4_bookChangedByHand 14 = .ok (.dup, 1) := by decide +kernel
theorem dX4_bookChangedByHand_15 : decode cX4_bookChangedByHand 15 = .ok (.ldc 240, 2) := by decide +kernel
theorem dX4_bookChangedByHand_17 : decode cX4_bookChangedByHand 17 = .ok (.invokespecial 54, 3) := by decide +kernel
theorem dX4_bookChangedByHand_20 : decode cX4_bookChangedByHand 20 = .ok (.athrow, 1) := by decide +kernel
theorem dX4_bookChangedByHand_21 : decode cX4_bookChangedByHand 21 = .ok (.aload_n 2, 1) := by decide +kernel
theorem dX4_bookChangedByHand_22 : decode cX4_bookChangedByHand 22 = .ok (.areturn, 1) := by decide +kernel
theorem dX4_plainBook_0 : decode cX4_plainBook 0 = .ok (.aload_n 0, 1) := by decide +kernel
theorem dX4_plainBook_1 : decode cX4_plainBook 1 = .ok (.iload_n 1, 1) := by decide +kernel
theorem dX4_plainBook_2 : decode cX4_plainBook 2 = .ok (.invokevirtual 113, 3) := by decide +kernel
theorem dX4_plainBook_5 : decode cX4_plainBook 5 = .ok (.astore_n 2, 1) := by decide +kernel
theorem dX4_plainBook_6 : decode cX4_plainBook 6 = .ok (.iload_n 1, 1) := by decide +kernel
theorem dX4_plainBook_7 : decode cX4_plainBook 7 = .ok (.iconst 2, 1) := by decide +kernel
theorem dX4_plainBook_8 : decode cX4_plainBook 8 = .ok (.if_icmp .eq 8, 3) := by decide +kernel
theorem dX4_plainBook_11 : decode cX4_plainBook 11 = .ok (.iload_n 1, 1) := by decide +kernel
theorem dX4_plainBook_12 : decode cX4_plainBook 12 = .ok (.iconst 3, 1) := by decide +kernel
theorem dX4_plainBook_13 : decode cX4_plainBook 13 = .ok (.if_icmp .ne 13, 3) := by decide +kernel
theorem dX4_plainBook_16 : decode cX4_plainBook 16 = .ok (.new 50, 3) := by decide +kernel
theorem dX4_plainBook_19 : decode cX4_plainBook 19 = .ok (.dup, 1) := by decide +kernel
theorem dX4_plainBook_20 : decode cX4_plainBook 20 = .ok (.ldc 242, 2) := by decide +kernel
theorem dX4_plainBook_22 : decode cX4_plainBook 22 = .ok (.invokespecial 54, 3) := by decide +kernel
theorem dX4_plainBook_25 : decode cX4_plainBook 25 = .ok (.athrow, 1) := by decide +kernel
theorem dX4_plainBook_26 : decode cX4_plainBook 26 = .ok (.aload_n 2, 1) := by decide +kernel
theorem dX4_plainBook_27 : decode cX4_plainBook 27 = .ok (.areturn, 1) := by decide +kernel
theorem dX4_requireTwoBooks_0 : decode cX4_requireTwoBooks 0 = .ok (.iload_n 1, 1) := by decide +kernel
theorem dX4_requireTwoBooks_1 : decode cX4_requireTwoBooks 1 = .ok (.iload_n 2, 1) := by decide +kernel
theorem dX4_requireTwoBooks_2 : decode cX4_requireTwoBooks 2 = .ok (.if_icmp .ne 13, 3) := by decide +kernel
theorem dX4_requireTwoBooks_5 : decode cX4_requireTwoBooks 5 = .ok (.new 50, 3) := by decide +kernel
theorem dX4_requireTwoBooks_8 : decode cX4_requireTwoBooks 8 = .ok (.dup, 1) := by decide +kernel
theorem dX4_requireTwoBooks_9 : decode cX4_requireTwoBooks 9 = .ok (.ldc 244, 2) := by decide +kernel
theorem dX4_requireTwoBooks_11 : decode cX4_requireTwoBooks 11 = .ok (.invokespecial 54, 3) := by decide +kernel
theorem dX4_requireTwoBooks_14 : decode cX4_requireTwoBooks 14 = .ok (.athrow, 1) := by decide +kernel
theorem dX4_requireTwoBooks_15 : decode cX4_requireTwoBooks 15 = .ok (.return_, 1) := by decide +kernel
theorem dX4_requireRoomForKey_0 : decode cX4_requireRoomForKey 0 = .ok (.aload_n 0, 1) := by decide +kernel
theorem dX4_requireRoomForKey_1 : decode cX4_requireRoomForKey 1 = .ok (.aload_n 1, 1) := by decide +kernel
theorem dX4_requireRoomForKey_2 : decode cX4_requireRoomForKey 2 = .ok (.aload_n 1, 1) := by decide +kernel
theorem dX4_requireRoomForKey_3 : decode cX4_requireRoomForKey 3 = .ok (.iload_n 2, 1) := by decide +kernel
theorem dX4_requireRoomForKey_4 : decode cX4_requireRoomForKey 4 = .ok (.invokevirtual 86, 3) := by decide +kernel
theorem dX4_requireRoomForKey_7 : decode cX4_requireRoomForKey 7 = .ok (.iconst (-1), 1) := by decide +kernel
theorem dX4_requireRoomForKey_8 : decode cX4_requireRoomForKey 8 = .ok (.if_icmp .ne 7, 3) := by decide +kernel
theorem dX4_requireRoomForKey_11 : decode cX4_requireRoomForKey 11 = .ok (.iconst 1, 1) := by decide +kernel
theorem dX4_requireRoomForKey_12 : decode cX4_requireRoomForKey 12 = .ok (.goto 4, 3) := by decide +kernel
theorem dX4_requireRoomForKey_15 : decode cX4_requireRoomForKey 15 = .ok (.iconst 0, 1) := by decide +kernel
theorem dX4_requireRoomForKey_16 : decode cX4_requireRoomForKey 16 = .ok (.invokevirtual 110, 3) := by decide +kernel
theorem dX4_requireRoomForKey_19 : decode cX4_requireRoomForKey 19 = .ok (.return_, 1) := by decide +kernel
theorem dX4_requireRoom_0 : decode cX4_requireRoom 0 = .ok (.aload_n 1, 1) := by decide +kernel
theorem dX4_requireRoom_1 : decode cX4_requireRoom 1 = .ok (.getfield 246, 3) := by decide +kernel
theorem dX4_requireRoom_4 : decode cX4_requireRoom 4 = .ok (.ifCond .ne 26, 3) := by decide +kernel
theorem dX4_requireRoom_7 : decode cX4_requireRoom 7 = .ok (.aload_n 1, 1) := by decide +kernel
theorem dX4_requireRoom_8 : decode cX4_requireRoom 8 = .ok (.getfield 57, 3) := by decide +kernel
theorem dX4_requireRoom_11 : decode cX4_requireRoom 11 = .ok (.iload_n 2, 1) := by decide +kernel
theorem dX4_requireRoom_12 : decode cX4_requireRoom 12 = .ok (.iadd, 1) := by decide +kernel
theorem dX4_requireRoom_13 : decode cX4_requireRoom 13 = .ok (.aload_n 1, 1) := by decide +kernel
theorem dX4_requireRoom_14 : decode cX4_requireRoom 14 = .ok (.getfield 64, 3) := by decide +kernel
theorem dX4_requireRoom_17 : decode cX4_requireRoom 17 = .ok (.if_icmp .le 13, 3) := by decide +kernel
theorem dX4_requireRoom_20 : decode cX4_requireRoom 20 = .ok (.new 250, 3) := by decide +kernel
theorem dX4_requireRoom_23 : decode cX4_requireRoom 23 = .ok (.dup, 1) := by decide +kernel
theorem dX4_requireRoom_24 : decode cX4_requireRoom 24 = .ok (.ldc 252, 2) := by decide +kernel
theorem dX4_requireRoom_26 : decode cX4_requireRoom 26 = .ok (.invokespecial 254, 3) := by decide +kernel
theorem dX4_requireRoom_29 : decode cX4_requireRoom 29 = .ok (.athrow, 1) := by decide +kernel
theorem dX4_requireRoom_30 : decode cX4_requireRoom 30 = .ok (.return_, 1) := by decide +kernel
theorem dX4_requirePlace_0 : decode cX4_requirePlace 0 = .ok (.aload_n 1, 1) := by decide +kernel
theorem dX4_requirePlace_1 : decode cX4_requirePlace 1 = .ok (.iload_n 2, 1) := by decide +kernel
theorem dX4_requirePlace_2 : decode cX4_requirePlace 2 = .ok (.invokevirtual 255, 3) := by decide +kernel
theorem dX4_requirePlace_5 : decode cX4_requirePlace 5 = .ok (.ifCond .ne 14, 3) := by decide +kernel
theorem dX4_requirePlace_8 : decode cX4_requirePlace 8 = .ok (.new 235, 3) := by decide +kernel
theorem dX4_requirePlace_11 : decode cX4_requirePlace 11 = .ok (.dup, 1) := by decide +kernel
theorem dX4_requirePlace_12 : decode cX4_requirePlace 12 = .ok (.ldc_w 256, 3) := by decide +kernel
theorem dX4_requirePlace_15 : decode cX4_requirePlace 15 = .ok (.invokespecial 239, 3) := by decide +kernel
theorem dX4_requirePlace_18 : decode cX4_requirePlace 18 = .ok (.athrow, 1) := by decide +kernel
theorem dX4_requirePlace_19 : decode cX4_requirePlace 19 = .ok (.return_, 1) := by decide +kernel
theorem dX4_requireKind_0 : decode cX4_requireKind 0 = .ok (.iload_n 1, 1) := by decide +kernel
theorem dX4_requireKind_1 : decode cX4_requireKind 1 = .ok (.ifCond .lt 8, 3) := by decide +kernel
theorem dX4_requireKind_4 : decode cX4_requireKind 4 = .ok (.iload_n 1, 1) := by decide +kernel
theorem dX4_requireKind_5 : decode cX4_requireKind 5 = .ok (.iconst 2, 1) := by decide +kernel
theorem dX4_requireKind_6 : decode cX4_requireKind 6 = .ok (.if_icmp .le 14, 3) := by decide +kernel
theorem dX4_requireKind_9 : decode cX4_requireKind 9 = .ok (.new 50, 3) := by decide +kernel
theorem dX4_requireKind_12 : decode cX4_requireKind 12 = .ok (.dup, 1) := by decide +kernel
theorem dX4_requireKind_13 : decode cX4_requireKind 13 = .ok (.ldc_w 258, 3) := by decide +kernel
theorem dX4_requireKind_16 : decode cX4_requireKind 16 = .ok (.invokespecial 54, 3) := by decide +kernel
theorem dX4_requireKind_19 : decode cX4_requireKind 19 = .ok (.athrow, 1) := by decide +kernel
theorem dX4_requireKind_20 : decode cX4_requireKind 20 = .ok (.return_, 1) := by decide +kernel
theorem dX4_cursorOfNumber_0 : decode cX4_cursorOfNumber 0 = .ok (.iload_n 1, 1) := by decide +kernel
theorem dX4_cursorOfNumber_1 : decode cX4_cursorOfNumber 1 = .ok (.tableswitch 42 0 2 #[27, 32, 37], 27) := by decide +kernel
theorem dX4_cursorOfNumber_28 : decode cX4_cursorOfNumber 28 = .ok (.aload_n 0, 1) := by decide +kernel
theorem dX4_cursorOfNumber_29 : decode cX4_cursorOfNumber 29 = .ok (.getfield 33, 3) := by decide +kernel
theorem dX4_cursorOfNumber_32 : decode cX4_cursorOfNumber 32 = .ok (.areturn, 1) := by decide +kernel
theorem dX4_cursorOfNumber_33 : decode cX4_cursorOfNumber 33 = .ok (.aload_n 0, 1) := by decide +kernel
theorem dX4_cursorOfNumber_34 : decode cX4_cursorOfNumber 34 = .ok (.getfield 37, 3) := by decide +kernel
theorem dX4_cursorOfNumber_37 : decode cX4_cursorOfNumber 37 = .ok (.areturn, 1) := by decide +kernel
theorem dX4_cursorOfNumber_38 : decode cX4_cursorOfNumber 38 = .ok (.aload_n 0, 1) := by decide +kernel
theorem dX4_cursorOfNumber_39 : decode cX4_cursorOfNumber 39 = .ok (.getfield 40, 3) := by decide +kernel
theorem dX4_cursorOfNumber_42 : decode cX4_cursorOfNumber 42 = .ok (.areturn, 1) := by decide +kernel
theorem dX4_cursorOfNumber_43 : decode cX4_cursorOfNumber 43 = .ok (.new 235, 3) := by decide +kernel
theorem dX4_cursorOfNumber_46 : decode cX4_cursorOfNumber 46 = .ok (.dup, 1) := by decide +kernel
theorem dX4_cursorOfNumber_47 : decode cX4_cursorOfNumber 47 = .ok (.ldc_w 260, 3) := by decide +kernel
theorem dX4_cursorOfNumber_50 : decode cX4_cursorOfNumber 50 = .ok (.invokespecial 239, 3) := by decide +kernel
theorem dX4_cursorOfNumber_53 : decode cX4_cursorOfNumber 53 = .ok (.athrow, 1) := by decide +kernel
theorem dX4_openCursor_0 : decode cX4_openCursor 0 = .ok (.aload_n 0, 1) := by decide +kernel
theorem dX4_openCursor_1 : decode cX4_openCursor 1 = .ok (.iload_n 1, 1) := by decide +kernel
theorem dX4_openCursor_2 : decode cX4_openCursor 2 = .ok (.invokevirtual 137, 3) := by decide +kernel
theorem dX4_openCursor_5 : decode cX4_openCursor 5 = .ok (.astore_n 2, 1) := by decide +kernel
theorem dX4_openCursor_6 : decode cX4_openCursor 6 = .ok (.aload_n 2, 1) := by decide +kernel
theorem dX4_openCursor_7 : decode cX4_openCursor 7 = .ok (.getfield 153, 3) := by decide +kernel
theorem dX4_openCursor_10 : decode cX4_openCursor 10 = .ok (.iconst (-1), 1) := by decide +kernel
theorem dX4_openCursor_11 : decode cX4_openCursor 11 = .ok (.if_icmp .ne 14, 3) := by decide +kernel
theorem dX4_openCursor_14 : decode cX4_openCursor 14 = .ok (.new 250, 3) := by decide +kernel
theorem dX4_openCursor_17 : decode cX4_openCursor 17 = .ok (.dup, 1) := by decide +kernel
theorem dX4_openCursor_18 : decode cX4_openCursor 18 = .ok (.ldc_w 262, 3) := by decide +kernel
theorem dX4_openCursor_21 : decode cX4_openCursor 21 = .ok (.invokespecial 254, 3) := by decide +kernel
theorem dX4_openCursor_24 : decode cX4_openCursor 24 = .ok (.athrow, 1) := by decide +kernel
theorem dX4_openCursor_25 : decode cX4_openCursor 25 = .ok (.aload_n 2, 1) := by decide +kernel
theorem dX4_openCursor_26 : decode cX4_openCursor 26 = .ok (.areturn, 1) := by decide +kernel
theorem dX4_requireChangeablePair_0 : decode cX4_requireChangeablePair 0 = .ok (.aload_n 1, 1) := by decide +kernel
theorem dX4_requireChangeablePair_1 : decode cX4_requireChangeablePair 1 = .ok (.getfield 153, 3) := by decide +kernel
theorem dX4_requireChangeablePair_4 : decode cX4_requireChangeablePair 4 = .ok (.iconst (-1), 1) := by decide +kernel
theorem dX4_requireChangeablePair_5 : decode cX4_requireChangeablePair 5 = .ok (.if_icmp .eq 18, 3) := by decide +kernel
theorem dX4_requireChangeablePair_8 : decode cX4_requireChangeablePair 8 = .ok (.aload_n 1, 1) := by decide +kernel
theorem dX4_requireChangeablePair_9 : decode cX4_requireChangeablePair 9 = .ok (.getfield 153, 3) := by decide +kernel
theorem dX4_requireChangeablePair_12 : decode cX4_requireChangeablePair 12 = .ok (.iconst 3, 1) := by decide +kernel
theorem dX4_requireChangeablePair_13 : decode cX4_requireChangeablePair 13 = .ok (.if_icmp .eq 10, 3) := by decide +kernel
theorem dX4_requireChangeablePair_16 : decode cX4_requireChangeablePair 16 = .ok (.aload_n 1, 1) := by decide +kernel
theorem dX4_requireChangeablePair_17 : decode cX4_requireChangeablePair 17 = .ok (.getfield 264, 3) := by decide +kernel
theorem dX4_requireChangeablePair_20 : decode cX4_requireChangeablePair 20 = .ok (.ifCond .ne 14, 3) := by decide +kernel
theorem dX4_requireChangeablePair_23 : decode cX4_requireChangeablePair 23 = .ok (.new 250, 3) := by decide +kernel
theorem dX4_requireChangeablePair_26 : decode cX4_requireChangeablePair 26 = .ok (.dup, 1) := by decide +kernel
theorem dX4_requireChangeablePair_27 : decode cX4_requireChangeablePair 27 = .ok (.ldc_w 267, 3) := by decide +kernel
theorem dX4_requireChangeablePair_30 : decode cX4_requireChangeablePair 30 = .ok (.invokespecial 254, 3) := by decide +kernel
theorem dX4_requireChangeablePair_33 : decode cX4_requireChangeablePair 33 = .ok (.athrow, 1) := by decide +kernel
theorem dX4_requireChangeablePair_34 : decode cX4_requireChangeablePair 34 = .ok (.return_, 1) := by decide +kernel
theorem dX4_closeCursors_0 : decode cX4_closeCursors 0 = .ok (.iconst 0, 1) := by decide +kernel
theorem dX4_closeCursors_1 : decode cX4_closeCursors 1 = .ok (.istore_n 3, 1) := by decide +kernel
theorem dX4_closeCursors_2 : decode cX4_closeCursors 2 = .ok (.iload_n 3, 1) := by decide +kernel
theorem dX4_closeCursors_3 : decode cX4_closeCursors 3 = .ok (.iconst 3, 1) := by decide +kernel
theorem dX4_closeCursors_4 : decode cX4_closeCursors 4 = .ok (.if_icmp .ge 35, 3) := by decide +kernel
theorem dX4_closeCursors_7 : decode cX4_closeCursors 7 = .ok (.aload_n 0, 1) := by decide +kernel
theorem dX4_closeCursors_8 : decode cX4_closeCursors 8 = .ok (.iload_n 3, 1) := by decide +kernel
theorem dX4_closeCursors_9 : decode cX4_closeCursors 9 = .ok (.invokevirtual 137, 3) := by decide +kernel
theorem dX4_closeCursors_12 : decode cX4_closeCursors 12 = .ok (.astore 4, 2) := by decide +kernel
theorem dX4_closeCursors_14 : decode cX4_closeCursors 14 = .ok (.iload_n 3, 1) := by decide +kernel
theorem dX4_closeCursors_15 : decode cX4_closeCursors 15 = .ok (.iload_n 2, 1) := by decide +kernel
theorem dX4_closeCursors_16 : decode cX4_closeCursors 16 = .ok (.if_icmp .eq 17, 3) := by decide +kernel
theorem dX4_closeCursors_19 : decode cX4_closeCursors 19 = .ok (.aload 4, 2) := by decide +kernel
theorem dX4_closeCursors_21 : decode cX4_closeCursors 21 = .ok (.getfield 153, 3) := by decide +kernel
theorem dX4_closeCursors_24 : decode cX4_closeCursors 24 = .ok (.iload_n 1, 1) := by decide +kernel
theorem dX4_closeCursors_25 : decode cX4_closeCursors 25 = .ok (.if_icmp .ne 8, 3) := by decide +kernel
theorem dX4_closeCursors_28 : decode cX4_closeCursors 28 = .ok (.aload 4, 2) := by decide +kernel
theorem dX4_closeCursors_30 : decode cX4_closeCursors 30 = .ok (.invokevirtual 269, 3) := by decide +kernel
theorem dX4_closeCursors_33 : decode cX4_closeCursors 33 = .ok (.iinc 3 1, 3) := by decide +kernel
theorem dX4_closeCursors_36 : decode cX4_closeCursors 36 = .ok (.goto (-34), 3) := by decide +kernel
theorem dX4_closeCursors_39 : decode cX4_closeCursors 39 = .ok (.return_, 1) := by decide +kernel
theorem dX5_init_0 : decode cX5_init 0 = .ok (.aload_n 0, 1) := by decide +kernel
theorem dX5_init_1 : decode cX5_init 1 = .ok (.invokespecial 1, 3) := by decide +kernel
theorem dX5_init_4 : decode cX5_init 4 = .ok (.aload_n 0, 1) := by decide +kernel
theorem dX5_init_5 : decode cX5_init 5 = .ok (.sipush 804, 3) := by decide +kernel
theorem dX5_init_8 : decode cX5_init 8 = .ok (.newarray .int, 2) := by decide +kernel
theorem dX5_init_10 : decode cX5_init 10 = .ok (.putfield 7, 3) := by decide +kernel
theorem dX5_init_13 : decode cX5_init 13 = .ok (.aload_n 0, 1) := by decide +kernel
theorem dX5_init_14 : decode cX5_init 14 = .ok (.sipush 804, 3) := by decide +kernel
theorem dX5_init_17 : decode cX5_init 17 = .ok (.newarray .int, 2) := by decide +kernel
theorem dX5_init_19 : decode cX5_init 19 = .ok (.putfield 13, 3) := by decide +kernel
theorem dX5_init_22 : decode cX5_init 22 = .ok (.aload_n 0, 1) := by decide +kernel
theorem dX5_init_23 : decode cX5_init 23 = .ok (.iconst 4, 1) := by decide +kernel
theorem dX5_init_24 : decode cX5_init 24 = .ok (.newarray .int, 2) := by decide +kernel
theorem dX5_init_26 : decode cX5_init 26 = .ok (.putfield 16, 3) := by decide +kernel
theorem dX5_init_29 : decode cX5_init 29 = .ok (.aload_n 0, 1) := by decide +kernel
theorem dX5_init_30 : decode cX5_init 30 = .ok (.bipush 8, 2) := by decide +kernel
theorem dX5_init_32 : decode cX5_init 32 = .ok (.putfield 19, 3) := by decide +kernel
theorem dX5_init_35 : decode cX5_init 35 = .ok (.aload_n 0, 1) := by decide +kernel
theorem dX5_init_36 : decode cX5_init 36 = .ok (.iconst 3, 1) := by decide +kernel
theorem dX5_init_37 : decode cX5_init 37 = .ok (.newarray .int, 2) := by decide +kernel
theorem dX5_init_39 : decode cX5_init 39 = .ok (.dup, 1) := by decide +kernel
theorem dX5_init_40 : decode cX5_init 40 = .ok (.iconst 0, 1) := by decide +kernel
theorem dX5_init_41 : decode cX5_init 41 = .ok (.iconst (-1), 1) := by decide +kernel
theorem dX5_init_42 : decode cX5_init 42 = .ok (.iastore, 1) := by decide +kernel
theorem dX5_init_43 : decode cX5_init 43 = .ok (.dup, 1) := by decide +kernel
theorem dX5_init_44 : decode cX5_init 44 = .ok (.iconst 1, 1) := by decide +kernel
theorem dX5_init_45 : decode cX5_init 45 = .ok (.iconst (-1), 1) := by decide +kernel
theorem dX5_init_46 : decode cX5_init 46 = .ok (.iastore, 1) := by decide +kernel
theorem dX5_init_47 : decode cX5_init 47 = .ok (.dup, 1) := by decide +kernel
theorem dX5_init_48 : decode cX5_init 48 = .ok (.iconst 2, 1) := by decide +kernel
theorem dX5_init_49 : decode cX5_init 49 = .ok (.iconst (-1), 1) := by decide +kernel
theorem dX5_init_50 : decode cX5_init 50 = .ok (.iastore, 1) := by decide +kernel
theorem dX5_init_51 : decode cX5_init 51 = .ok (.putfield 23, 3) := by decide +kernel
theorem dX5_init_54 : decode cX5_init 54 = .ok (.aload_n 0, 1) := by decide +kernel
theorem dX5_init_55 : decode cX5_init 55 = .ok (.iconst 3, 1) := by decide +kernel
theorem dX5_init_56 : decode cX5_init 56 = .ok (.newarray .int, 2) := by decide +kernel
theorem dX5_init_58 : decode cX5_init 58 = .ok (.putfield 26, 3) := by decide +kernel
theorem dX5_init_61 : decode cX5_init 61 = .ok (.aload_n 0, 1) := by decide +kernel
theorem dX5_init_62 : decode cX5_init 62 = .ok (.iconst 3, 1) := by decide +kernel
theorem dX5_init_63 : decode cX5_init 63 = .ok (.newarray .int, 2) := by decide +kernel
theorem dX5_init_65 : decode cX5_init 65 = .ok (.putfield 29, 3) := by decide +kernel
theorem dX5_init_68 : decode cX5_init 68 = .ok (.aload_n 0, 1) := by decide +kernel
theorem dX5_init_69 : decode cX5_init 69 = .ok (.iconst 3, 1) := by decide +kernel
theorem dX5_init_70 : decode cX5_init 70 = .ok (.newarray .boolean, 2) := by decide +kernel
theorem dX5_init_72 : decode cX5_init 72 = .ok (.putfield 32, 3) := by decide +kernel
theorem dX5_init_75 : decode cX5_init 75 = .ok (.aload_n 0, 1) := by decide +kernel
theorem dX5_init_76 : decode cX5_init 76 = .ok (.sipush 6000, 3) := by decide +kernel
theorem dX5_init_79 : decode cX5_init 79 = .ok (.newarray .int, 2) := by decide +kernel
theorem dX5_init_81 : decode cX5_init 81 = .ok (.putfield 36, 3) := by decide +kernel
theorem dX5_init_84 : decode cX5_init 84 = .ok (.return_, 1) := by decide +kernel
theorem dX5_thrown_0 : decode cX5_thrown 0 = .ok (.aload_n 0, 1) := by decide +kernel
theorem dX5_thrown_1 : decode cX5_thrown 1 = .ok (.getfield 39, 3) := by decide +kernel
theorem dX5_thrown_4 : decode cX5_thrown 4 = .ok (.ireturn, 1) := by decide +kernel
theorem dX5_in_0 : decode cX5_in 0 = .ok (.iload_n 0, 1) := by decide +kernel
theorem dX5_in_1 : decode cX5_in 1 = .ok (.iload_n 1, 1) := by decide +kernel
theorem dX5_in_2 : decode cX5_in 2 = .ok (.if_icmp .lt 12, 3) := by decide +kernel
theorem dX5_in_5 : decode cX5_in 5 = .ok (.iload_n 0, 1) := by decide +kernel
theorem dX5_in_6 : decode cX5_in 6 = .ok (.iload_n 2, 1) := by decide +kernel
theorem dX5_in_7 : decode cX5_in 7 = .ok (.if_icmp .gt 7, 3) := by decide +kernel
theorem dX5_in_10 : decode cX5_in 10 = .ok (.iconst 1, 1) := by decide +kernel
theorem dX5_in_11 : decode cX5_in 11 = .ok (.goto 4, 3) := by decide +kernel
theorem dX5_in_14 : decode cX5_in 14 = .ok (.iconst 0, 1) := by decide +kernel
theorem dX5_in_15 : decode cX5_in 15 = .ok (.ireturn, 1) := by decide +kernel
theorem dX5_isBook_0 : decode cX5_isBook 0 = .ok (.iload_n 0, 1) := by decide +kernel
theorem dX5_isBook_1 : decode cX5_isBook 1 = .ok (.iconst 0, 1) := by decide +kernel
theorem dX5_isBook_2 : decode cX5_isBook 2 = .ok (.iconst 3, 1) := by decide +kernel
theorem dX5_isBook_3 : decode cX5_isBook 3 = .ok (.invokestatic 42, 3) := by decide +kernel
theorem dX5_isBook_6 : decode cX5_isBook 6 = .ok (.ireturn, 1) := by decide +kernel
theorem dX5_isPlain_0 : decode cX5_isPlain 0 = .ok (.iload_n 0, 1) := by decide +kernel
theorem dX5_isPlain_1 : decode cX5_isPlain 1 = .ok (.iconst 0, 1) := by decide +kernel
theorem dX5_isPlain_2 : decode cX5_isPlain 2 = .ok (.iconst 1, 1) := by decide +kernel
theorem dX5_isPlain_3 : decode cX5_isPlain 3 = .ok (.invokestatic 42, 3) := by decide +kernel
theorem dX5_isPlain_6 : decode cX5_isPlain 6 = .ok (.ireturn, 1) := by decide +kernel
theorem dX5_refuse_0 : decode cX5_refuse 0 = .ok (.aload_n 0, 1) := by decide +kernel
theorem dX5_refuse_1 : decode cX5_refuse 1 = .ok (.iload_n 1, 1) := by decide +kernel
theorem dX5_refuse_2 : decode cX5_refuse 2 = .ok (.putfield 39, 3) := by decide +kernel
theorem dX5_refuse_5 : decode cX5_refuse 5 = .ok (.iconst 0, 1) := by decide +kernel
theorem dX5_refuse_6 : decode cX5_refuse 6 = .ok (.ireturn, 1) := by decide +kernel
theorem dX5_told_0 : decode cX5_told 0 = .ok (.aload_n 0, 1) := by decide +kernel
theorem dX5_told_1 : decode cX5_told 1 = .ok (.iconst 0, 1) := by decide +kernel
theorem dX5_told_2 : decode cX5_told 2 = .ok (.putfield 39, 3) := by decide +kernel
theorem dX5_told_5 : decode cX5_told 5 = .ok (.iload_n 1, 1) := by decide +kernel
theorem dX5_told_6 : decode cX5_told 6 = .ok (.ireturn, 1) := by decide +kernel
theorem dX5_says_0 : decode cX5_says 0 = .ok (.aload_n 0, 1) := by decide +kernel
theorem dX5_says_1 : decode cX5_says 1 = .ok (.iconst 0, 1) := by decide +kernel
theorem dX5_says_2 : decode cX5_says 2 = .ok (.putfield 39, 3) := by decide +kernel
theorem dX5_says_5 : decode cX5_says 5 = .ok (.iload_n 1, 1) := by decide +kernel
theorem dX5_says_6 : decode cX5_says 6 = .ok (.ireturn, 1) := by decide +kernel
theorem dX5_denies_0 : decode cX5_denies 0 = .ok (.aload_n 0, 1) := by decide +kernel
theorem dX5_denies_1 : decode cX5_denies 1 = .ok (.iload_n 1, 1) := by decide +kernel
theorem dX5_denies_2 : decode cX5_denies 2 = .ok (.putfield 39, 3) := by decide +kernel
theorem dX5_denies_5 : decode cX5_denies 5 = .ok (.iconst 0, 1) := by decide +kernel
theorem dX5_denies_6 : decode cX5_denies 6 = .ok (.ireturn, 1) := by decide +kernel
theorem dX5_place_0 : decode cX5_place 0 = .ok (.iconst 0, 1) := by decide +kernel
theorem dX5_place_1 : decode cX5_place 1 = .ok (.istore_n 3, 1) := by decide +kernel
theorem dX5_place_2 : decode cX5_place 2 = .ok (.iload_n 3, 1) := by decide +kernel
theorem dX5_place_3 : decode cX5_place 3 = .ok (.aload_n 0, 1) := by decide +kernel
theorem dX5_place_4 : decode cX5_place 4 = .ok (.getfield 16, 3) := by decide +kernel
theorem dX5_place_7 : decode cX5_place 7 = .ok (.iload_n 1, 1) := by decide +kernel
theorem dX5_place_8 : decode cX5_place 8 = .ok (.iaload, 1) := by decide +kernel
theorem dX5_place_9 : decode cX5_place 9 = .ok (.if_icmp .ge 27, 3) := by decide +kernel
theorem dX5_place_12 : decode cX5_place 12 = .ok (.aload_n 0, 1) := by decide +kernel
theorem dX5_place_13 : decode cX5_place 13 = .ok (.getfield 7, 3) := by decide +kernel
theorem dX5_place_16 : decode cX5_place 16 = .ok (.sipush 201, 3) := by decide +kernel
theorem dX5_place_19 : decode cX5_place 19 = .ok (.iload_n 1, 1) := by decide +kernel
theorem dX5_place_20 : decode cX5_place 20 = .ok (.imul, 1) := by decide +kernel
theorem dX5_place_21 : decode cX5_place 21 = .ok (.iload_n 3, 1) := by decide +kernel
theorem dX5_place_22 : decode cX5_place 22 = .ok (.iadd, 1) := by decide +kernel
theorem dX5_place_23 : decode cX5_place 23 = .ok (.iaload, 1) := by decide +kernel
theorem dX5_place_24 : decode cX5_place 24 = .ok (.iload_n 2, 1) := by decide +kernel
theorem dX5_place_25 : decode cX5_place 25 = .ok (.if_icmp .ne 5, 3) := by decide +kernel
theorem dX5_place_28 : decode cX5_place 28 = .ok (.iload_n 3, 1) := by decide +kernel
theorem dX5_place_29 : decode cX5_place 29 = .ok (.ireturn, 1) := by decide +kernel
theorem dX5_place_30 : decode cX5_place 30 = .ok (.iinc 3 1, 3) := by decide +kernel
theorem dX5_place_33 : decode cX5_place 33 = .ok (.goto (-31), 3) := by decide +kernel
theorem dX5_place_36 : decode cX5_place 36 = .ok (.iconst (-1), 1) := by decide +kernel
theorem dX5_place_37 : decode cX5_place 37 = .ok (.ireturn, 1) := by decide +kernel
theorem dX5_takes_0 : decode cX5_takes 0 = .ok (.iload_n 2, 1) := by decide +kernel
theorem dX5_takes_1 : decode cX5_takes 1 = .ok (.istore_n 3, 1) := by decide +kernel
theorem dX5_takes_2 : decode cX5_takes 2 = .ok (.iload_n 3, 1) := by decide +kernel
theorem dX5_takes_3 : decode cX5_takes 3 = .ok (.iconst 1, 1) := by decide +kernel
theorem dX5_takes_4 : decode cX5_takes 4 = .ok (.iadd, 1) := by decide +kernel
theorem dX5_takes_5 : decode cX5_takes 5 = .ok (.aload_n 0, 1) := by decide +kernel
theorem dX5_takes_6 : decode cX5_takes 6 = .ok (.getfield 16, 3) := by decide +kernel
theorem dX5_takes_9 : decode cX5_takes 9 = .ok (.iload_n 1, 1) := by decide +kernel
theorem dX5_takes_10 : decode cX5_takes 10 = .ok (.iaload, 1) := by decide +kernel
theorem dX5_takes_11 : decode cX5_takes 11 = .ok (.if_icmp .ge 61, 3) := by decide +kernel
theorem dX5_takes_14 : decode cX5_takes 14 = .ok (.aload_n 0, 1) := by decide +kernel
theorem dX5_takes_15 : decode cX5_takes 15 = .ok (.getfield 7, 3) := by decide +kernel
theorem dX5_takes_18 : decode cX5_takes 18 = .ok (.sipush 201, 3) := by decide +kernel
theorem dX5_takes_21 : decode cX5_takes 21 = .ok (.iload_n 1, 1) := by decide +kernel
theorem dX5_takes_22 : decode cX5_takes 22 = .ok (.imul, 1) := by decide +kernel
theorem dX5_takes_23 : decode cX5_takes 23 = .ok (.iload_n 3, 1) := by decide +kernel
theorem dX5_takes_24 : decode cX5_takes 24 = .ok (.iadd, 1) := by decide +kernel
theorem dX5_takes_25 : decode cX5_takes 25 = .ok (.aload_n 0, 1) := by decide +kernel
theorem dX5_takes_26 : decode cX5_takes 26 = .ok (.getfield 7, 3) := by decide +kernel
theorem dX5_takes_29 : decode cX5_takes 29 = .ok (.sipush 201, 3) := by decide +kernel
theorem dX5_takes_32 : decode cX5_takes 32 = .ok (.iload_n 1, 1) := by decide +kernel
theorem dX5_takes_33 : decode cX5_takes 33 = .ok (.imul, 1) := by decide +kernel
theorem dX5_takes_34 : decode cX5_takes 34 = .ok (.iload_n 3, 1) := by decide +kernel
theorem dX5_takes_35 : decode cX5_takes 35 = .ok (.iadd, 1) := by decide +kernel
theorem dX5_takes_36 : decode cX5_takes 36 = .ok (.iconst 1, 1) := by decide +kernel
theorem dX5_takes_37 : decode cX5_takes 37 = .ok (.iadd, 1) := by decide +kernel
theorem dX5_takes_38 : decode cX5_takes 38 = .ok (.iaload, 1) := by decide +kernel
theorem dX5_takes_39 : decode cX5_takes 39 = .ok (.iastore, 1) := by decide +kernel
theorem dX5_takes_40 : decode cX5_takes 40 = .ok (.aload_n 0, 1) := by decide +kernel
theorem dX5_takes_41 : decode cX5_takes 41 = .ok (.getfield 13, 3) := by decide +kernel
theorem dX5_takes_44 : decode cX5_takes 44 = .ok (.sipush 201, 3) := by decide +kernel
theorem dX5_takes_47 : decode cX5_takes 47 = .ok (.iload_n 1, 1) := by decide +kernel
theorem dX5_takes_48 : decode cX5_takes 48 = .ok (.imul, 1) := by decide +kernel
theorem dX5_takes_49 : decode cX5_takes 49 = .ok (.iload_n 3, 1) := by decide +kernel
theorem dX5_takes_50 : decode cX5_takes 50 = .ok (.iadd, 1) := by decide +kernel
theorem dX5_takes_51 : decode cX5_takes 51 = .ok (.aload_n 0, 1) := by decide +kernel
theorem dX5_takes_52 : decode cX5_takes 52 = .ok (.getfield 13, 3) := by decide +kernel
theorem dX5_takes_55 : decode cX5_takes 55 = .ok (.sipush 201, 3) := by decide +kernel
theorem dX5_takes_58 : decode cX5_takes 58 = .ok (.iload_n 1, 1) := by decide +kernel
theorem dX5_takes_59 : decode cX5_takes 59 = .ok (.imul, 1) := by decide +kernel
theorem dX5_takes_60 : decode cX5_takes 60 = .ok (.iload_n 3, 1) := by decide +kernel
theorem dX5_takes_61 : decode cX5_takes 61 = .ok (.iadd, 1) := by decide +kernel
theorem dX5_takes_62 : decode cX5_takes 62 = .ok (.iconst 1, 1) := by decide +kernel
theorem dX5_takes_63 : decode cX5_takes 63 = .ok (.iadd, 1) := by decide +kernel
theorem dX5_takes_64 : decode cX5_takes 64 = .ok (.iaload, 1) := by decide +kernel
theorem dX5_takes_65 : decode cX5_takes 65 = .ok (.iastore, 1) := by decide +kernel
theorem dX5_takes_66 : decode cX5_takes 66 = .ok (.iinc 3 1, 3) := by decide +kernel
theorem dX5_takes_69 : decode cX5_takes 69 = .ok (.goto (-67), 3) := by decide +kernel
theorem dX5_takes_72 : decode cX5_takes 72 = .ok (.aload_n 0, 1) := by decide +kernel
theorem dX5_takes_73 : decode cX5_takes 73 = .ok (.getfield 16, 3) := by decide +kernel
theorem dX5_takes_76 : decode cX5_takes 76 = .ok (.iload_n 1, 1) := by decide +kernel
theorem dX5_takes_77 : decode cX5_takes 77 = .ok (.dup2, 1) := by decide +kernel
theorem dX5_takes_78 : decode cX5_takes 78 = .ok (.iaload, 1) := by decide +kernel
theorem dX5_takes_79 : decode cX5_takes 79 = .ok (.iconst 1, 1) := by decide +kernel
theorem dX5_takes_80 : decode cX5_takes 80 = .ok (.isub, 1) := by decide +kernel
theorem dX5_takes_81 : decode cX5_takes 81 = .ok (.iastore, 1) := by decide +kernel
theorem dX5_takes_82 : decode cX5_takes 82 = .ok (.return_, 1) := by decide +kernel
theorem dX5_comes_0 : decode cX5_comes 0 = .ok (.aload_n 0, 1) := by decide +kernel
theorem dX5_comes_1 : decode cX5_comes 1 = .ok (.getfield 7, 3) := by decide +kernel
theorem dX5_comes_4 : decode cX5_comes 4 = .ok (.sipush 201, 3) := by decide +kernel
theorem dX5_comes_7 : decode cX5_comes 7 = .ok (.iload_n 1, 1) := by decide +kernel
theorem dX5_comes_8 : decode cX5_comes 8 = .ok (.imul, 1) := by decide +kernel
theorem dX5_comes_9 : decode cX5_comes 9 = .ok (.aload_n 0, 1) := by decide +kernel
theorem dX5_comes_10 : decode cX5_comes 10 = .ok (.getfield 16, 3) := by decide +kernel
theorem dX5_comes_13 : decode cX5_comes 13 = .ok (.iload_n 1, 1) := by decide +kernel
theorem dX5_comes_14 : decode cX5_comes 14 = .ok (.iaload, 1) := by decide +kernel
theorem dX5_comes_15 : decode cX5_comes 15 = .ok (.iadd, 1) := by decide +kernel
theorem dX5_comes_16 : decode cX5_comes 16 = .ok (.iload_n 2, 1) := by decide +kernel
theorem dX5_comes_17 : decode cX5_comes 17 = .ok (.iastore, 1) := by decide +kernel
theorem dX5_comes_18 : decode cX5_comes 18 = .ok (.aload_n 0, 1) := by decide +kernel
theorem dX5_comes_19 : decode cX5_comes 19 = .ok (.getfield 13, 3) := by decide +kernel
theorem dX5_comes_22 : decode cX5_comes 22 = .ok (.sipush 201, 3) := by decide +kernel
theorem dX5_comes_25 : decode cX5_comes 25 = .ok (.iload_n 1, 1) := by decide +kernel
theorem dX5_comes_26 : decode cX5_comes 26 = .ok (.imul, 1) := by decide +kernel
theorem dX5_comes_27 : decode cX5_comes 27 = .ok (.aload_n 0, 1) := by decide +kernel
theorem dX5_comes_28 : decode cX5_comes 28 = .ok (.getfield 16, 3) := by decide +kernel
theorem dX5_comes_31 : decode cX5_comes 31 = .ok (.iload_n 1, 1) := by decide +kernel
theorem dX5_comes_32 : decode cX5_comes 32 = .ok (.iaload, 1) := by decide +kernel
theorem dX5_comes_33 : decode cX5_comes 33 = .ok (.iadd, 1) := by decide +kernel
theorem dX5_comes_34 : decode cX5_comes 34 = .ok (.iload_n 3, 1) := by decide +kernel
theorem dX5_comes_35 : decode cX5_comes 35 = .ok (.iastore, 1) := by decide +kernel
theorem dX5_comes_36 : decode cX5_comes 36 = .ok (.aload_n 0, 1) := by decide +kernel
theorem dX5_comes_37 : decode cX5_comes 37 = .ok (.getfield 16, 3) := by decide +kernel
theorem dX5_comes_40 : decode cX5_comes 40 = .ok (.iload_n 1, 1) := by decide +kernel
theorem dX5_comes_41 : decode cX5_comes 41 = .ok (.dup2, 1) := by decide +kernel
theorem dX5_comes_42 : decode cX5_comes 42 = .ok (.iaload, 1) := by decide +kernel
theorem dX5_comes_43 : decode cX5_comes 43 = .ok (.iconst 1, 1) := by decide +kernel
theorem dX5_comes_44 : decode cX5_comes 44 = .ok (.iadd, 1) := by decide +kernel
theorem dX5_comes_45 : decode cX5_comes 45 = .ok (.iastore, 1) := by decide +kernel
theorem dX5_comes_46 : decode cX5_comes 46 = .ok (.iload_n 1, 1) := by decide +kernel
theorem dX5_comes_47 : decode cX5_comes 47 = .ok (.iconst 2, 1) := by decide +kernel
theorem dX5_comes_48 : decode cX5_comes 48 = .ok (.if_icmp .ne 22, 3) := by decide +kernel
theorem dX5_comes_51 : decode cX5_comes 51 = .ok (.aload_n 0, 1) := by decide +kernel
theorem dX5_comes_52 : decode cX5_comes 52 = .ok (.getfield 16, 3) := by decide +kernel
theorem dX5_comes_55 : decode cX5_comes 55 = .ok (.iload_n 1, 1) := by decide +kernel
theorem dX5_comes_56 : decode cX5_comes 56 = .ok (.iaload, 1) := by decide +kernel
theorem dX5_comes_57 : decode cX5_comes 57 = .ok (.aload_n 0, 1) := by decide +kernel
theorem dX5_comes_58 : decode cX5_comes 58 = .ok (.getfield 19, 3) := by decide +kernel
theorem dX5_comes_61 : decode cX5_comes 61 = .ok (.if_icmp .le 9, 3) := by decide +kernel
theorem dX5_comes_64 : decode cX5_comes 64 = .ok (.aload_n 0, 1) := by decide +kernel
theorem dX5_comes_65 : decode cX5_comes 65 = .ok (.iload_n 1, 1) := by decide +kernel
theorem dX5_comes_66 : decode cX5_comes 66 = .ok (.iconst 0, 1) := by decide +kernel
theorem dX5_comes_67 : decode cX5_comes 67 = .ok (.invokevirtual 46, 3) := by decide +kernel
theorem dX5_comes_70 : decode cX5_comes 70 = .ok (.return_, 1) := by decide +kernel
theorem dX5_puts_0 : decode cX5_puts 0 = .ok (.aload_n 0, 1) := by decide +kernel
theorem dX5_puts_1 : decode cX5_puts 1 = .ok (.iload_n 1, 1) := by decide +kernel
theorem dX5_puts_2 : decode cX5_puts 2 = .ok (.iload_n 2, 1) := by decide +kernel
theorem dX5_puts_3 : decode cX5_puts 3 = .ok (.invokevirtual 50, 3) := by decide +kernel
theorem dX5_puts_6 : decode cX5_puts 6 = .ok (.istore 4, 2) := by decide +kernel
theorem dX5_puts_8 : decode cX5_puts 8 = .ok (.iload 4, 2) := by decide +kernel
theorem dX5_puts_10 : decode cX5_puts 10 = .ok (.iconst (-1), 1) := by decide +kernel
theorem dX5_puts_11 : decode cX5_puts 11 = .ok (.if_icmp .ne 13, 3) := by decide +kernel
theorem dX5_puts_14 : decode cX5_puts 14 = .ok (.aload_n 0, 1) := by decide +kernel
theorem dX5_puts_15 : decode cX5_puts 15 = .ok (.iload_n 1, 1) := by decide +kernel
theorem dX5_puts_16 : decode cX5_puts 16 = .ok (.iload_n 2, 1) := by decide +kernel
theorem dX5_puts_17 : decode cX5_puts 17 = .ok (.iload_n 3, 1) := by decide +kernel
theorem dX5_puts_18 : decode cX5_puts 18 = .ok (.invokevirtual 54, 3) := by decide +kernel
theorem dX5_puts_21 : decode cX5_puts 21 = .ok (.goto 17, 3) := by decide +kernel
theorem dX5_puts_24 : decode cX5_puts 24 = .ok (.aload_n 0, 1) := by decide +kernel
theorem dX5_puts_25 : decode cX5_puts 25 = .ok (.getfield 13, 3) := by decide +kernel
theorem dX5_puts_28 : decode cX5_puts 28 = .ok (.sipush 201, 3) := by decide +kernel
theorem dX5_puts_31 : decode cX5_puts 31 = .ok (.iload_n 1, 1) := by decide +kernel
theorem dX5_puts_32 : decode cX5_puts 32 = .ok (.imul, 1) := by decide +kernel
theorem dX5_puts_33 : decode cX5_puts 33 = .ok (.iload 4, 2) := by decide +kernel
theorem dX5_puts_35 : decode cX5_puts 35 = .ok (.iadd, 1) := by decide +kernel
theorem dX5_puts_36 : decode cX5_puts 36 = .ok (.iload_n 3, 1) := by decide +kernel
theorem dX5_puts_37 : decode cX5_puts 37 = .ok (.iastore, 1) := by decide +kernel
theorem dX5_puts_38 : decode cX5_puts 38 = .ok (.return_, 1) := by decide +kernel
theorem dX5_isFull_0 : decode cX5_isFull 0 = .ok (.iload_n 1, 1) := by decide +kernel
theorem dX5_isFull_1 : decode cX5_isFull 1 = .ok (.iconst 2, 1) := by decide +kernel
theorem dX5_isFull_2 : decode cX5_isFull 2 = .ok (.if_icmp .eq 29, 3) := by decide +kernel
theorem dX5_isFull_5 : decode cX5_isFull 5 = .ok (.aload_n 0, 1) := by decide +kernel
theorem dX5_isFull_6 : decode cX5_isFull 6 = .ok (.getfield 16, 3) := by decide +kernel
theorem dX5_isFull_9 : decode cX5_isFull 9 = .ok (.iload_n 1, 1) := by decide +kernel
theorem dX5_isFull_10 : decode cX5_isFull 10 = .ok (.iaload, 1) := by decide +kernel
theorem dX5_isFull_11 : decode cX5_isFull 11 = .ok (.sipush 200, 3) := by decide +kernel
theorem dX5_isFull_14 : decode cX5_isFull 14 = .ok (.if_icmp .ne 17, 3) := by decide +kernel
theorem dX5_isFull_17 : decode cX5_isFull 17 = .ok (.aload_n 0, 1) := by decide +kernel
theorem dX5_isFull_18 : decode cX5_isFull 18 = .ok (.iload_n 1, 1) := by decide +kernel
theorem dX5_isFull_19 : decode cX5_isFull 19 = .ok (.iload_n 2, 1) := by decide +kernel
theorem dX5_isFull_20 : decode cX5_isFull 20 = .ok (.invokevirtual 50, 3) := by decide +kernel
theorem dX5_isFull_23 : decode cX5_isFull 23 = .ok (.iconst (-1), 1) := by decide +kernel
theorem dX5_isFull_24 : decode cX5_isFull 24 = .ok (.if_icmp .ne 7, 3) := by decide +kernel
theorem dX5_isFull_27 : decode cX5_isFull 27 = .ok (.iconst 1, 1) := by decide +kernel
theorem dX5_isFull_28 : decode cX5_isFull 28 = .ok (.goto 4, 3) := by decide +kernel
theorem dX5_isFull_31 : decode cX5_isFull 31 = .ok (.iconst 0, 1) := by decide +kernel
theorem dX5_isFull_32 : decode cX5_isFull 32 = .ok (.ireturn, 1) := by decide +kernel
theorem dX5_closes_0 : decode cX5_closes 0 = .ok (.iconst 0, 1) := by decide +kernel
theorem dX5_closes_1 : decode cX5_closes 1 = .ok (.istore_n 3, 1) := by decide +kernel
theorem dX5_closes_2 : decode cX5_closes 2 = .ok (.iload_n 3, 1) := by decide +kernel
theorem dX5_closes_3 : decode cX5_closes 3 = .ok (.iconst 3, 1) := by decide +kernel
theorem dX5_closes_4 : decode cX5_closes 4 = .ok (.if_icmp .ge 31, 3) := by decide +kernel
theorem dX5_closes_7 : decode cX5_closes 7 = .ok (.aload_n 0, 1) := by decide +kernel
theorem dX5_closes_8 : decode cX5_closes 8 = .ok (.getfield 23, 3) := by decide +kernel
theorem dX5_closes_11 : decode cX5_closes 11 = .ok (.iload_n 3, 1) := by decide +kernel
theorem dX5_closes_12 : decode cX5_closes 12 = .ok (.iaload, 1) := by decide +kernel
theorem dX5_closes_13 : decode cX5_closes 13 = .ok (.iload_n 1, 1) := by decide +kernel
theorem dX5_closes_14 : decode cX5_closes 14 = .ok (.if_icmp .ne 15, 3) := by decide +kernel
theorem dX5_closes_17 : decode cX5_closes 17 = .ok (.iload_n 3, 1) := by decide +kernel
theorem dX5_closes_18 : decode cX5_closes 18 = .ok (.iload_n 2, 1) := by decide +kernel
theorem dX5_closes_19 : decode cX5_closes 19 = .ok (.if_icmp .eq 10, 3) := by decide +kernel
theorem dX5_closes_22 : decode cX5_closes 22 = .ok (.aload_n 0, 1) := by decide +kernel
theorem dX5_closes_23 : decode cX5_closes 23 = .ok (.getfield 23, 3) := by decide +kernel
theorem dX5_closes_26 : decode cX5_closes 26 = .ok (.iload_n 3, 1) := by decide +kernel
theorem dX5_closes_27 : decode cX5_closes 27 = .ok (.iconst (-1), 1) := by decide +kernel
theorem dX5_closes_28 : decode cX5_closes 28 = .ok (.iastore, 1) := by decide +kernel
theorem dX5_closes_29 : decode cX5_closes 29 = .ok (.iinc 3 1, 3) := by decide +kernel
theorem dX5_closes_32 : decode cX5_closes 32 = .ok (.goto (-30), 3) := by decide +kernel
theorem dX5_closes_35 : decode cX5_closes 35 = .ok (.return_, 1) := by decide +kernel
theorem dX5_rebind_0 : decode cX5_rebind 0 = .ok (.iload_n 1, 1) := by decide +kernel
theorem dX5_rebind_1 : decode cX5_rebind 1 = .ok (.iconst 1, 1) := by decide +kernel
theorem dX5_rebind_2 : decode cX5_rebind 2 = .ok (.bipush 40, 2) := by decide +kernel
theorem dX5_rebind_4 : decode cX5_rebind 4 = .ok (.invokestatic 42, 3) := by decide +kernel
theorem dX5_rebind_7 : decode cX5_rebind 7 = .ok (.ifCond .ne 9, 3) := by decide +kernel
theorem dX5_rebind_10 : decode cX5_rebind 10 = .ok (.aload_n 0, 1) := by decide +kernel
theorem dX5_rebind_11 : decode cX5_rebind 11 = .ok (.iconst 1, 1) := by decide +kernel
theorem dX5_rebind_12 : decode cX5_rebind 12 = .ok (.invokevirtual 58, 3) := by decide +kernel
theorem dX5_rebind_15 : decode cX5_rebind 15 = .ok (.ireturn, 1) := by decide +kernel
theorem dX5_rebind_16 : decode cX5_rebind 16 = .ok (.aload_n 0, 1) := by decide +kernel
theorem dX5_rebind_17 : decode cX5_rebind 17 = .ok (.getfield 16, 3) := by decide +kernel
theorem dX5_rebind_20 : decode cX5_rebind 20 = .ok (.iconst 2, 1) := by decide +kernel
theorem dX5_rebind_21 : decode cX5_rebind 21 = .ok (.iaload, 1) := by decide +kernel
theorem dX5_rebind_22 : decode cX5_rebind 22 = .ok (.istore_n 2, 1) := by decide +kernel
theorem dX5_rebind_23 : decode cX5_rebind 23 = .ok (.aload_n 0, 1) := by decide +kernel
theorem dX5_rebind_24 : decode cX5_rebind 24 = .ok (.getfield 16, 3) := by decide +kernel
theorem dX5_rebind_27 : decode cX5_rebind 27 = .ok (.iconst 2, 1) := by decide +kernel
theorem dX5_rebind_28 : decode cX5_rebind 28 = .ok (.iconst 0, 1) := by decide +kernel
theorem dX5_rebind_29 : decode cX5_rebind 29 = .ok (.iastore, 1) := by decide +kernel
theorem dX5_rebind_30 : decode cX5_rebind 30 = .ok (.aload_n 0, 1) := by decide +kernel
theorem dX5_rebind_31 : decode cX5_rebind 31 = .ok (.iload_n 1, 1) := by decide +kernel
theorem dX5_rebind_32 : decode cX5_rebind 32 = .ok (.putfield 19, 3) := by decide +kernel
theorem dX5_rebind_35 : decode cX5_rebind 35 = .ok (.aload_n 0, 1) := by decide +kernel
theorem dX5_rebind_36 : decode cX5_rebind 36 = .ok (.iconst 2, 1) := by decide +kernel
theorem dX5_rebind_37 : decode cX5_rebind 37 = .ok (.iconst (-1), 1) := by decide +kernel
theorem dX5_rebind_38 : decode cX5_rebind 38 = .ok (.invokevirtual 62, 3) := by decide +kernel
theorem dX5_rebind_41 : decode cX5_rebind 41 = .ok (.aload_n 0, 1) := by decide +kernel
theorem dX5_rebind_42 : decode cX5_rebind 42 = .ok (.iload_n 2, 1) := by decide +kernel
theorem dX5_rebind_43 : decode cX5_rebind 43 = .ok (.invokevirtual 65, 3) := by decide +kernel
theorem dX5_rebind_46 : decode cX5_rebind 46 = .ok (.ireturn, 1) := by decide +kernel
theorem dX5_put_0 : decode cX5_put 0 = .ok (.iload_n 1, 1) := by decide +kernel
theorem dX5_put_1 : decode cX5_put 1 = .ok (.invokestatic 68, 3) := by decide +kernel
theorem dX5_put_4 : decode cX5_put 4 = .ok (.ifCond .ne 9, 3) := by decide +kernel
theorem dX5_put_7 : decode cX5_put 7 = .ok (.aload_n 0, 1) := by decide +kernel
theorem dX5_put_8 : decode cX5_put 8 = .ok (.iconst 1, 1) := by decide +kernel
theorem dX5_put_9 : decode cX5_put 9 = .ok (.invokevirtual 72, 3) := by decide +kernel
theorem dX5_put_12 : decode cX5_put 12 = .ok (.ireturn, 1) := by decide +kernel
theorem dX5_put_13 : decode cX5_put 13 = .ok (.iload_n 1, 1) := by decide +kernel
theorem dX5_put_14 : decode cX5_put 14 = .ok (.iconst 3, 1) := by decide +kernel
theorem dX5_put_15 : decode cX5_put 15 = .ok (.if_icmp .ne 9, 3) := by decide +kernel
theorem dX5_put_18 : decode cX5_put 18 = .ok (.aload_n 0, 1) := by decide +kernel
theorem dX5_put_19 : decode cX5_put 19 = .ok (.iconst 2, 1) := by decide +kernel
theorem dX5_put_20 : decode cX5_put 20 = .ok (.invokevirtual 72, 3) := by decide +kernel
theorem dX5_put_23 : decode cX5_put 23 = .ok (.ireturn, 1) := by decide +kernel
theorem dX5_put_24 : decode cX5_put 24 = .ok (.aload_n 0, 1) := by decide +kernel
theorem dX5_put_25 : decode cX5_put 25 = .ok (.iload_n 1, 1) := by decide +kernel
theorem dX5_put_26 : decode cX5_put 26 = .ok (.iload_n 2, 1) := by decide +kernel
theorem dX5_put_27 : decode cX5_put 27 = .ok (.invokevirtual 75, 3) := by decide +kernel
theorem dX5_put_30 : decode cX5_put 30 = .ok (.ifCond .eq 9, 3) := by decide +kernel
theorem dX5_put_33 : decode cX5_put 33 = .ok (.aload_n 0, 1) := by decide +kernel
theorem dX5_put_34 : decode cX5_put 34 = .ok (.iconst 3, 1) := by decide +kernel
theorem dX5_put_35 : decode cX5_put 35 = .ok (.invokevirtual 72, 3) := by decide +kernel
theorem dX5_put_38 : decode cX5_put 38 = .ok (.ireturn, 1) := by decide +kernel
theorem dX5_put_39 : decode cX5_put 39 = .ok (.aload_n 0, 1) := by decide +kernel
theorem dX5_put_40 : decode cX5_put 40 = .ok (.iload_n 1, 1) := by decide +kernel
theorem dX5_put_41 : decode cX5_put 41 = .ok (.iload_n 2, 1) := by decide +kernel
theorem dX5_put_42 : decode cX5_put 42 = .ok (.invokevirtual 50, 3) := by decide +kernel
theorem dX5_put_45 : decode cX5_put 45 = .ok (.iconst (-1), 1) := by decide +kernel
theorem dX5_put_46 : decode cX5_put 46 = .ok (.if_icmp .eq 7, 3) := by decide +kernel
theorem dX5_put_49 : decode cX5_put 49 = .ok (.iconst 1, 1) := by decide +kernel
theorem dX5_put_50 : decode cX5_put 50 = .ok (.goto 4, 3) := by decide +kernel
theorem dX5_put_53 : decode cX5_put 53 = .ok (.iconst 0, 1) := by decide +kernel
theorem dX5_put_54 : decode cX5_put 54 = .ok (.istore 4, 2) := by decide +kernel
theorem dX5_put_56 : decode cX5_put 56 = .ok (.aload_n 0, 1) := by decide +kernel
theorem dX5_put_57 : decode cX5_put 57 = .ok (.iload_n 1, 1) := by decide +kernel
theorem dX5_put_58 : decode cX5_put 58 = .ok (.iload_n 2, 1) := by decide +kernel
theorem dX5_put_59 : decode cX5_put 59 = .ok (.iload_n 3, 1) := by decide +kernel
theorem dX5_put_60 : decode cX5_put 60 = .ok (.invokevirtual 79, 3) := by decide +kernel
theorem dX5_put_63 : decode cX5_put 63 = .ok (.aload_n 0, 1) := by decide +kernel
theorem dX5_put_64 : decode cX5_put 64 = .ok (.iload_n 1, 1) := by decide +kernel
theorem dX5_put_65 : decode cX5_put 65 = .ok (.iconst (-1), 1) := by decide +kernel
theorem dX5_put_66 : decode cX5_put 66 = .ok (.invokevirtual 62, 3) := by decide +kernel
theorem dX5_put_69 : decode cX5_put 69 = .ok (.aload_n 0, 1) := by decide +kernel
theorem dX5_put_70 : decode cX5_put 70 = .ok (.iload 4, 2) := by decide +kernel
theorem dX5_put_72 : decode cX5_put 72 = .ok (.invokevirtual 82, 3) := by decide +kernel
theorem dX5_put_75 : decode cX5_put 75 = .ok (.ireturn, 1) := by decide +kernel
theorem dX5_lacks_0 : decode cX5_lacks 0 = .ok (.iload_n 1, 1) := by decide +kernel
theorem dX5_lacks_1 : decode cX5_lacks 1 = .ok (.invokestatic 68, 3) := by decide +kernel
theorem dX5_lacks_4 : decode cX5_lacks 4 = .ok (.ifCond .ne 7, 3) := by decide +kernel
theorem dX5_lacks_7 : decode cX5_lacks 7 = .ok (.iconst 1, 1) := by decide +kernel
theorem dX5_lacks_8 : decode cX5_lacks 8 = .ok (.goto 28, 3) := by decide +kernel
theorem dX5_lacks_11 : decode cX5_lacks 11 = .ok (.iload_n 1, 1) := by decide +kernel
theorem dX5_lacks_12 : decode cX5_lacks 12 = .ok (.invokestatic 86, 3) := by decide +kernel
theorem dX5_lacks_15 : decode cX5_lacks 15 = .ok (.ifCond .ne 7, 3) := by decide +kernel
theorem dX5_lacks_18 : decode cX5_lacks 18 = .ok (.iconst 2, 1) := by decide +kernel
theorem dX5_lacks_19 : decode cX5_lacks 19 = .ok (.goto 17, 3) := by decide +kernel
theorem dX5_lacks_22 : decode cX5_lacks 22 = .ok (.aload_n 0, 1) := by decide +kernel
theorem dX5_lacks_23 : decode cX5_lacks 23 = .ok (.iload_n 1, 1) := by decide +kernel
theorem dX5_lacks_24 : decode cX5_lacks 24 = .ok (.iload_n 2, 1) := by decide +kernel
theorem dX5_lacks_25 : decode cX5_lacks 25 = .ok (.invokevirtual 75, 3) := by decide +kernel
theorem dX5_lacks_28 : decode cX5_lacks 28 = .ok (.ifCond .eq 7, 3) := by decide +kernel
theorem dX5_lacks_31 : decode cX5_lacks 31 = .ok (.iconst 3, 1) := by decide +kernel
theorem dX5_lacks_32 : decode cX5_lacks 32 = .ok (.goto 4, 3) := by decide +kernel
theorem dX5_lacks_35 : decode cX5_lacks 35 = .ok (.iconst 0, 1) := by decide +kernel
theorem dX5_lacks_36 : decode cX5_lacks 36 = .ok (.ireturn, 1) := by decide +kernel
theorem dX5_putNew_0 : decode cX5_putNew 0 = .ok (.aload_n 0, 1) := by decide +kernel
theorem dX5_putNew_1 : decode cX5_putNew 1 = .ok (.iload_n 1, 1) := by decide +kernel
theorem dX5_putNew_2 : decode cX5_putNew 2 = .ok (.iload_n 2, 1) := by decide +kernel
theorem dX5_putNew_3 : decode cX5_putNew 3 = .ok (.invokevirtual 89, 3) := by decide +kernel
end
section
theorem dX5_putNew_6 : decode cX5_putNew 6 = .ok (.istore 4, 2) := by decide +kernel
theorem dX5_putNew_8 : decode cX5_putNew 8 = .ok (.iload 4, 2) := by decide +kernel
theorem dX5_putNew_10 : decode cX5_putNew 10 = .ok (.ifCond .eq 10, 3) := by decide +kernel
theorem dX5_putNew_13 : decode cX5_putNew 13 = .ok (.aload_n 0, 1) := by decide +kernel
theorem dX5_putNew_14 : decode cX5_putNew 14 = .ok (.iload 4, 2) := by decide +kernel
theorem dX5_putNew_16 : decode cX5_putNew 16 = .ok (.invokevirtual 58, 3) := by decide +kernel
theorem dX5_putNew_19 : decode cX5_putNew 19 = .ok (.ireturn, 1) := by decide +kernel
theorem dX5_putNew_20 : decode cX5_putNew 20 = .ok (.aload_n 0, 1) := by decide +kernel
theorem dX5_putNew_21 : decode cX5_putNew 21 = .ok (.iload_n 1, 1) := by decide +kernel
theorem dX5_putNew_22 : decode cX5_putNew 22 = .ok (.iload_n 2, 1) := by decide +kernel
theorem dX5_putNew_23 : decode cX5_putNew 23 = .ok (.invokevirtual 50, 3) := by decide +kernel
theorem dX5_putNew_26 : decode cX5_putNew 26 = .ok (.iconst (-1), 1) := by decide +kernel
theorem dX5_putNew_27 : decode cX5_putNew 27 = .ok (.if_icmp .ne 10, 3) := by decide +kernel
theorem dX5_putNew_30 : decode cX5_putNew 30 = .ok (.aload_n 0, 1) := by decide +kernel
theorem dX5_putNew_31 : decode cX5_putNew 31 = .ok (.iload_n 1, 1) := by decide +kernel
theorem dX5_putNew_32 : decode cX5_putNew 32 = .ok (.iload_n 2, 1) := by decide +kernel
theorem dX5_putNew_33 : decode cX5_putNew 33 = .ok (.iload_n 3, 1) := by decide +kernel
theorem dX5_putNew_34 : decode cX5_putNew 34 = .ok (.invokevirtual 54, 3) := by decide +kernel
theorem dX5_putNew_37 : decode cX5_putNew 37 = .ok (.aload_n 0, 1) := by decide +kernel
theorem dX5_putNew_38 : decode cX5_putNew 38 = .ok (.iload_n 1, 1) := by decide +kernel
theorem dX5_putNew_39 : decode cX5_putNew 39 = .ok (.iconst (-1), 1) := by decide +kernel
theorem dX5_putNew_40 : decode cX5_putNew 40 = .ok (.invokevirtual 62, 3) := by decide +kernel
theorem dX5_putNew_43 : decode cX5_putNew 43 = .ok (.aload_n 0, 1) := by decide +kernel
theorem dX5_putNew_44 : decode cX5_putNew 44 = .ok (.aload_n 0, 1) := by decide +kernel
theorem dX5_putNew_45 : decode cX5_putNew 45 = .ok (.getfield 13, 3) := by decide +kernel
theorem dX5_putNew_48 : decode cX5_putNew 48 = .ok (.sipush 201, 3) := by decide +kernel
theorem dX5_putNew_51 : decode cX5_putNew 51 = .ok (.iload_n 1, 1) := by decide +kernel
theorem dX5_putNew_52 : decode cX5_putNew 52 = .ok (.imul, 1) := by decide +kernel
theorem dX5_putNew_53 : decode cX5_putNew 53 = .ok (.aload_n 0, 1) := by decide +kernel
theorem dX5_putNew_54 : decode cX5_putNew 54 = .ok (.iload_n 1, 1) := by decide +kernel
theorem dX5_putNew_55 : decode cX5_putNew 55 = .ok (.iload_n 2, 1) := by decide +kernel
theorem dX5_putNew_56 : decode cX5_putNew 56 = .ok (.invokevirtual 50, 3) := by decide +kernel
theorem dX5_putNew_59 : decode cX5_putNew 59 = .ok (.iadd, 1) := by decide +kernel
theorem dX5_putNew_60 : decode cX5_putNew 60 = .ok (.iaload, 1) := by decide +kernel
theorem dX5_putNew_61 : decode cX5_putNew 61 = .ok (.invokevirtual 65, 3) := by decide +kernel
theorem dX5_putNew_64 : decode cX5_putNew 64 = .ok (.ireturn, 1) := by decide +kernel
theorem dX5_add_0 : decode cX5_add 0 = .ok (.aload_n 0, 1) := by decide +kernel
theorem dX5_add_1 : decode cX5_add 1 = .ok (.iload_n 1, 1) := by decide +kernel
theorem dX5_add_2 : decode cX5_add 2 = .ok (.iload_n 2, 1) := by decide +kernel
theorem dX5_add_3 : decode cX5_add 3 = .ok (.invokevirtual 89, 3) := by decide +kernel
theorem dX5_add_6 : decode cX5_add 6 = .ok (.istore 4, 2) := by decide +kernel
theorem dX5_add_8 : decode cX5_add 8 = .ok (.iload 4, 2) := by decide +kernel
theorem dX5_add_10 : decode cX5_add 10 = .ok (.ifCond .eq 10, 3) := by decide +kernel
theorem dX5_add_13 : decode cX5_add 13 = .ok (.aload_n 0, 1) := by decide +kernel
theorem dX5_add_14 : decode cX5_add 14 = .ok (.iload 4, 2) := by decide +kernel
theorem dX5_add_16 : decode cX5_add 16 = .ok (.invokevirtual 58, 3) := by decide +kernel
theorem dX5_add_19 : decode cX5_add 19 = .ok (.ireturn, 1) := by decide +kernel
theorem dX5_add_20 : decode cX5_add 20 = .ok (.aload_n 0, 1) := by decide +kernel
theorem dX5_add_21 : decode cX5_add 21 = .ok (.iload_n 1, 1) := by decide +kernel
theorem dX5_add_22 : decode cX5_add 22 = .ok (.iload_n 2, 1) := by decide +kernel
theorem dX5_add_23 : decode cX5_add 23 = .ok (.invokevirtual 50, 3) := by decide +kernel
theorem dX5_add_26 : decode cX5_add 26 = .ok (.istore 5, 2) := by decide +kernel
theorem dX5_add_28 : decode cX5_add 28 = .ok (.aload_n 0, 1) := by decide +kernel
theorem dX5_add_29 : decode cX5_add 29 = .ok (.iload_n 1, 1) := by decide +kernel
theorem dX5_add_30 : decode cX5_add 30 = .ok (.iload_n 2, 1) := by decide +kernel
theorem dX5_add_31 : decode cX5_add 31 = .ok (.iload 5, 2) := by decide +kernel
theorem dX5_add_33 : decode cX5_add 33 = .ok (.iconst (-1), 1) := by decide +kernel
theorem dX5_add_34 : decode cX5_add 34 = .ok (.if_icmp .ne 7, 3) := by decide +kernel
theorem dX5_add_37 : decode cX5_add 37 = .ok (.iload_n 3, 1) := by decide +kernel
theorem dX5_add_38 : decode cX5_add 38 = .ok (.goto 18, 3) := by decide +kernel
theorem dX5_add_41 : decode cX5_add 41 = .ok (.aload_n 0, 1) := by decide +kernel
theorem dX5_add_42 : decode cX5_add 42 = .ok (.getfield 13, 3) := by decide +kernel
theorem dX5_add_45 : decode cX5_add 45 = .ok (.sipush 201, 3) := by decide +kernel
theorem dX5_add_48 : decode cX5_add 48 = .ok (.iload_n 1, 1) := by decide +kernel
theorem dX5_add_49 : decode cX5_add 49 = .ok (.imul, 1) := by decide +kernel
theorem dX5_add_50 : decode cX5_add 50 = .ok (.iload 5, 2) := by decide +kernel
theorem dX5_add_52 : decode cX5_add 52 = .ok (.iadd, 1) := by decide +kernel
theorem dX5_add_53 : decode cX5_add 53 = .ok (.iaload, 1) := by decide +kernel
theorem dX5_add_54 : decode cX5_add 54 = .ok (.iload_n 3, 1) := by decide +kernel
theorem dX5_add_55 : decode cX5_add 55 = .ok (.iadd, 1) := by decide +kernel
theorem dX5_add_56 : decode cX5_add 56 = .ok (.invokevirtual 79, 3) := by decide +kernel
theorem dX5_add_59 : decode cX5_add 59 = .ok (.aload_n 0, 1) := by decide +kernel
theorem dX5_add_60 : decode cX5_add 60 = .ok (.iload_n 1, 1) := by decide +kernel
theorem dX5_add_61 : decode cX5_add 61 = .ok (.iconst (-1), 1) := by decide +kernel
theorem dX5_add_62 : decode cX5_add 62 = .ok (.invokevirtual 62, 3) := by decide +kernel
theorem dX5_add_65 : decode cX5_add 65 = .ok (.aload_n 0, 1) := by decide +kernel
theorem dX5_add_66 : decode cX5_add 66 = .ok (.aload_n 0, 1) := by decide +kernel
theorem dX5_add_67 : decode cX5_add 67 = .ok (.getfield 13, 3) := by decide +kernel
theorem dX5_add_70 : decode cX5_add 70 = .ok (.sipush 201, 3) := by decide +kernel
theorem dX5_add_73 : decode cX5_add 73 = .ok (.iload_n 1, 1) := by decide +kernel
theorem dX5_add_74 : decode cX5_add 74 = .ok (.imul, 1) := by decide +kernel
theorem dX5_add_75 : decode cX5_add 75 = .ok (.aload_n 0, 1) := by decide +kernel
theorem dX5_add_76 : decode cX5_add 76 = .ok (.iload_n 1, 1) := by decide +kernel
theorem dX5_add_77 : decode cX5_add 77 = .ok (.iload_n 2, 1) := by decide +kernel
theorem dX5_add_78 : decode cX5_add 78 = .ok (.invokevirtual 50, 3) := by decide +kernel
theorem dX5_add_81 : decode cX5_add 81 = .ok (.iadd, 1) := by decide +kernel
theorem dX5_add_82 : decode cX5_add 82 = .ok (.iaload, 1) := by decide +kernel
theorem dX5_add_83 : decode cX5_add 83 = .ok (.invokevirtual 65, 3) := by decide +kernel
theorem dX5_add_86 : decode cX5_add 86 = .ok (.ireturn, 1) := by decide +kernel
theorem dX5_halve_0 : decode cX5_halve 0 = .ok (.iload_n 1, 1) := by decide +kernel
theorem dX5_halve_1 : decode cX5_halve 1 = .ok (.invokestatic 68, 3) := by decide +kernel
theorem dX5_halve_4 : decode cX5_halve 4 = .ok (.ifCond .ne 9, 3) := by decide +kernel
theorem dX5_halve_7 : decode cX5_halve 7 = .ok (.aload_n 0, 1) := by decide +kernel
theorem dX5_halve_8 : decode cX5_halve 8 = .ok (.iconst 1, 1) := by decide +kernel
theorem dX5_halve_9 : decode cX5_halve 9 = .ok (.invokevirtual 72, 3) := by decide +kernel
theorem dX5_halve_12 : decode cX5_halve 12 = .ok (.ireturn, 1) := by decide +kernel
theorem dX5_halve_13 : decode cX5_halve 13 = .ok (.iload_n 1, 1) := by decide +kernel
theorem dX5_halve_14 : decode cX5_halve 14 = .ok (.invokestatic 86, 3) := by decide +kernel
theorem dX5_halve_17 : decode cX5_halve 17 = .ok (.ifCond .ne 9, 3) := by decide +kernel
theorem dX5_halve_20 : decode cX5_halve 20 = .ok (.aload_n 0, 1) := by decide +kernel
theorem dX5_halve_21 : decode cX5_halve 21 = .ok (.iconst 2, 1) := by decide +kernel
theorem dX5_halve_22 : decode cX5_halve 22 = .ok (.invokevirtual 72, 3) := by decide +kernel
theorem dX5_halve_25 : decode cX5_halve 25 = .ok (.ireturn, 1) := by decide +kernel
theorem dX5_halve_26 : decode cX5_halve 26 = .ok (.aload_n 0, 1) := by decide +kernel
theorem dX5_halve_27 : decode cX5_halve 27 = .ok (.iload_n 1, 1) := by decide +kernel
theorem dX5_halve_28 : decode cX5_halve 28 = .ok (.iconst (-1), 1) := by decide +kernel
theorem dX5_halve_29 : decode cX5_halve 29 = .ok (.invokevirtual 62, 3) := by decide +kernel
theorem dX5_halve_32 : decode cX5_halve 32 = .ok (.aload_n 0, 1) := by decide +kernel
theorem dX5_halve_33 : decode cX5_halve 33 = .ok (.iload_n 1, 1) := by decide +kernel
theorem dX5_halve_34 : decode cX5_halve 34 = .ok (.iload_n 2, 1) := by decide +kernel
theorem dX5_halve_35 : decode cX5_halve 35 = .ok (.invokevirtual 50, 3) := by decide +kernel
theorem dX5_halve_38 : decode cX5_halve 38 = .ok (.istore_n 3, 1) := by decide +kernel
theorem dX5_halve_39 : decode cX5_halve 39 = .ok (.iload_n 3, 1) := by decide +kernel
theorem dX5_halve_40 : decode cX5_halve 40 = .ok (.iconst (-1), 1) := by decide +kernel
theorem dX5_halve_41 : decode cX5_halve 41 = .ok (.if_icmp .ne 9, 3) := by decide +kernel
theorem dX5_halve_44 : decode cX5_halve 44 = .ok (.aload_n 0, 1) := by decide +kernel
theorem dX5_halve_45 : decode cX5_halve 45 = .ok (.iconst 0, 1) := by decide +kernel
theorem dX5_halve_46 : decode cX5_halve 46 = .ok (.invokevirtual 82, 3) := by decide +kernel
theorem dX5_halve_49 : decode cX5_halve 49 = .ok (.ireturn, 1) := by decide +kernel
theorem dX5_halve_50 : decode cX5_halve 50 = .ok (.aload_n 0, 1) := by decide +kernel
theorem dX5_halve_51 : decode cX5_halve 51 = .ok (.getfield 13, 3) := by decide +kernel
theorem dX5_halve_54 : decode cX5_halve 54 = .ok (.sipush 201, 3) := by decide +kernel
theorem dX5_halve_57 : decode cX5_halve 57 = .ok (.iload_n 1, 1) := by decide +kernel
theorem dX5_halve_58 : decode cX5_halve 58 = .ok (.imul, 1) := by decide +kernel
theorem dX5_halve_59 : decode cX5_halve 59 = .ok (.iload_n 3, 1) := by decide +kernel
theorem dX5_halve_60 : decode cX5_halve 60 = .ok (.iadd, 1) := by decide +kernel
theorem dX5_halve_61 : decode cX5_halve 61 = .ok (.iaload, 1) := by decide +kernel
theorem dX5_halve_62 : decode cX5_halve 62 = .ok (.iconst 2, 1) := by decide +kernel
theorem dX5_halve_63 : decode cX5_halve 63 = .ok (.idiv, 1) := by decide +kernel
theorem dX5_halve_64 : decode cX5_halve 64 = .ok (.istore 4, 2) := by decide +kernel
theorem dX5_halve_66 : decode cX5_halve 66 = .ok (.aload_n 0, 1) := by decide +kernel
theorem dX5_halve_67 : decode cX5_halve 67 = .ok (.getfield 13, 3) := by decide +kernel
theorem dX5_halve_70 : decode cX5_halve 70 = .ok (.sipush 201, 3) := by decide +kernel
theorem dX5_halve_73 : decode cX5_halve 73 = .ok (.iload_n 1, 1) := by decide +kernel
theorem dX5_halve_74 : decode cX5_halve 74 = .ok (.imul, 1) := by decide +kernel
theorem dX5_halve_75 : decode cX5_halve 75 = .ok (.iload_n 3, 1) := by decide +kernel
theorem dX5_halve_76 : decode cX5_halve 76 = .ok (.iadd, 1) := by decide +kernel
theorem dX5_halve_77 : decode cX5_halve 77 = .ok (.iload 4, 2) := by decide +kernel
theorem dX5_halve_79 : decode cX5_halve 79 = .ok (.iastore, 1) := by decide +kernel
theorem dX5_halve_80 : decode cX5_halve 80 = .ok (.iload 4, 2) := by decide +kernel
theorem dX5_halve_82 : decode cX5_halve 82 = .ok (.ifCond .ne 9, 3) := by decide +kernel
theorem dX5_halve_85 : decode cX5_halve 85 = .ok (.aload_n 0, 1) := by decide +kernel
theorem dX5_halve_86 : decode cX5_halve 86 = .ok (.iload_n 1, 1) := by decide +kernel
theorem dX5_halve_87 : decode cX5_halve 87 = .ok (.iload_n 3, 1) := by decide +kernel
theorem dX5_halve_88 : decode cX5_halve 88 = .ok (.invokevirtual 46, 3) := by decide +kernel
theorem dX5_halve_91 : decode cX5_halve 91 = .ok (.aload_n 0, 1) := by decide +kernel
theorem dX5_halve_92 : decode cX5_halve 92 = .ok (.iload 4, 2) := by decide +kernel
theorem dX5_halve_94 : decode cX5_halve 94 = .ok (.ifCond .eq 7, 3) := by decide +kernel
theorem dX5_halve_97 : decode cX5_halve 97 = .ok (.iconst 1, 1) := by decide +kernel
theorem dX5_halve_98 : decode cX5_halve 98 = .ok (.goto 4, 3) := by decide +kernel
theorem dX5_halve_101 : decode cX5_halve 101 = .ok (.iconst 0, 1) := by decide +kernel
theorem dX5_halve_102 : decode cX5_halve 102 = .ok (.invokevirtual 82, 3) := by decide +kernel
theorem dX5_halve_105 : decode cX5_halve 105 = .ok (.ireturn, 1) := by decide +kernel
theorem dX5_addToAll_0 : decode cX5_addToAll 0 = .ok (.iload_n 1, 1) := by decide +kernel
theorem dX5_addToAll_1 : decode cX5_addToAll 1 = .ok (.invokestatic 68, 3) := by decide +kernel
theorem dX5_addToAll_4 : decode cX5_addToAll 4 = .ok (.ifCond .ne 9, 3) := by decide +kernel
theorem dX5_addToAll_7 : decode cX5_addToAll 7 = .ok (.aload_n 0, 1) := by decide +kernel
theorem dX5_addToAll_8 : decode cX5_addToAll 8 = .ok (.iconst 1, 1) := by decide +kernel
theorem dX5_addToAll_9 : decode cX5_addToAll 9 = .ok (.invokevirtual 58, 3) := by decide +kernel
theorem dX5_addToAll_12 : decode cX5_addToAll 12 = .ok (.ireturn, 1) := by decide +kernel
theorem dX5_addToAll_13 : decode cX5_addToAll 13 = .ok (.iload_n 1, 1) := by decide +kernel
theorem dX5_addToAll_14 : decode cX5_addToAll 14 = .ok (.iconst 3, 1) := by decide +kernel
theorem dX5_addToAll_15 : decode cX5_addToAll 15 = .ok (.if_icmp .ne 9, 3) := by decide +kernel
theorem dX5_addToAll_18 : decode cX5_addToAll 18 = .ok (.aload_n 0, 1) := by decide +kernel
theorem dX5_addToAll_19 : decode cX5_addToAll 19 = .ok (.iconst 2, 1) := by decide +kernel
theorem dX5_addToAll_20 : decode cX5_addToAll 20 = .ok (.invokevirtual 58, 3) := by decide +kernel
theorem dX5_addToAll_23 : decode cX5_addToAll 23 = .ok (.ireturn, 1) := by decide +kernel
theorem dX5_addToAll_24 : decode cX5_addToAll 24 = .ok (.iconst 0, 1) := by decide +kernel
theorem dX5_addToAll_25 : decode cX5_addToAll 25 = .ok (.istore_n 3, 1) := by decide +kernel
theorem dX5_addToAll_26 : decode cX5_addToAll 26 = .ok (.iload_n 3, 1) := by decide +kernel
theorem dX5_addToAll_27 : decode cX5_addToAll 27 = .ok (.aload_n 0, 1) := by decide +kernel
theorem dX5_addToAll_28 : decode cX5_addToAll 28 = .ok (.getfield 16, 3) := by decide +kernel
theorem dX5_addToAll_31 : decode cX5_addToAll 31 = .ok (.iload_n 1, 1) := by decide +kernel
theorem dX5_addToAll_32 : decode cX5_addToAll 32 = .ok (.iaload, 1) := by decide +kernel
theorem dX5_addToAll_33 : decode cX5_addToAll 33 = .ok (.if_icmp .ge 25, 3) := by decide +kernel
theorem dX5_addToAll_36 : decode cX5_addToAll 36 = .ok (.aload_n 0, 1) := by decide +kernel
theorem dX5_addToAll_37 : decode cX5_addToAll 37 = .ok (.getfield 13, 3) := by decide +kernel
theorem dX5_addToAll_40 : decode cX5_addToAll 40 = .ok (.sipush 201, 3) := by decide +kernel
theorem dX5_addToAll_43 : decode cX5_addToAll 43 = .ok (.iload_n 1, 1) := by decide +kernel
theorem dX5_addToAll_44 : decode cX5_addToAll 44 = .ok (.imul, 1) := by decide +kernel
theorem dX5_addToAll_45 : decode cX5_addToAll 45 = .ok (.iload_n 3, 1) := by decide +kernel
theorem dX5_addToAll_46 : decode cX5_addToAll 46 = .ok (.iadd, 1) := by decide +kernel
theorem dX5_addToAll_47 : decode cX5_addToAll 47 = .ok (.dup2, 1) := by decide +kernel
theorem dX5_addToAll_48 : decode cX5_addToAll 48 = .ok (.iaload, 1) := by decide +kernel
theorem dX5_addToAll_49 : decode cX5_addToAll 49 = .ok (.iload_n 2, 1) := by decide +kernel
theorem dX5_addToAll_50 : decode cX5_addToAll 50 = .ok (.iadd, 1) := by decide +kernel
theorem dX5_addToAll_51 : decode cX5_addToAll 51 = .ok (.iastore, 1) := by decide +kernel
theorem dX5_addToAll_52 : decode cX5_addToAll 52 = .ok (.iinc 3 1, 3) := by decide +kernel
theorem dX5_addToAll_55 : decode cX5_addToAll 55 = .ok (.goto (-29), 3) := by decide +kernel
theorem dX5_addToAll_58 : decode cX5_addToAll 58 = .ok (.aload_n 0, 1) := by decide +kernel
theorem dX5_addToAll_59 : decode cX5_addToAll 59 = .ok (.iload_n 1, 1) := by decide +kernel
theorem dX5_addToAll_60 : decode cX5_addToAll 60 = .ok (.iconst (-1), 1) := by decide +kernel
theorem dX5_addToAll_61 : decode cX5_addToAll 61 = .ok (.invokevirtual 62, 3) := by decide +kernel
theorem dX5_addToAll_64 : decode cX5_addToAll 64 = .ok (.aload_n 0, 1) := by decide +kernel
theorem dX5_addToAll_65 : decode cX5_addToAll 65 = .ok (.aload_n 0, 1) := by decide +kernel
theorem dX5_addToAll_66 : decode cX5_addToAll 66 = .ok (.getfield 16, 3) := by decide +kernel
theorem dX5_addToAll_69 : decode cX5_addToAll 69 = .ok (.iload_n 1, 1) := by decide +kernel
theorem dX5_addToAll_70 : decode cX5_addToAll 70 = .ok (.iaload, 1) := by decide +kernel
theorem dX5_addToAll_71 : decode cX5_addToAll 71 = .ok (.invokevirtual 65, 3) := by decide +kernel
theorem dX5_addToAll_74 : decode cX5_addToAll 74 = .ok (.ireturn, 1) := by decide +kernel
theorem dX5_replace_0 : decode cX5_replace 0 = .ok (.iload_n 1, 1) := by decide +kernel
theorem dX5_replace_1 : decode cX5_replace 1 = .ok (.invokestatic 68, 3) := by decide +kernel
theorem dX5_replace_4 : decode cX5_replace 4 = .ok (.ifCond .ne 9, 3) := by decide +kernel
theorem dX5_replace_7 : decode cX5_replace 7 = .ok (.aload_n 0, 1) := by decide +kernel
theorem dX5_replace_8 : decode cX5_replace 8 = .ok (.iconst 1, 1) := by decide +kernel
theorem dX5_replace_9 : decode cX5_replace 9 = .ok (.invokevirtual 72, 3) := by decide +kernel
theorem dX5_replace_12 : decode cX5_replace 12 = .ok (.ireturn, 1) := by decide +kernel
theorem dX5_replace_13 : decode cX5_replace 13 = .ok (.iload_n 1, 1) := by decide +kernel
theorem dX5_replace_14 : decode cX5_replace 14 = .ok (.iconst 3, 1) := by decide +kernel
theorem dX5_replace_15 : decode cX5_replace 15 = .ok (.if_icmp .ne 9, 3) := by decide +kernel
theorem dX5_replace_18 : decode cX5_replace 18 = .ok (.aload_n 0, 1) := by decide +kernel
theorem dX5_replace_19 : decode cX5_replace 19 = .ok (.iconst 2, 1) := by decide +kernel
theorem dX5_replace_20 : decode cX5_replace 20 = .ok (.invokevirtual 72, 3) := by decide +kernel
theorem dX5_replace_23 : decode cX5_replace 23 = .ok (.ireturn, 1) := by decide +kernel
theorem dX5_replace_24 : decode cX5_replace 24 = .ok (.aload_n 0, 1) := by decide +kernel
theorem dX5_replace_25 : decode cX5_replace 25 = .ok (.iload_n 1, 1) := by decide +kernel
theorem dX5_replace_26 : decode cX5_replace 26 = .ok (.iconst (-1), 1) := by decide +kernel
theorem dX5_replace_27 : decode cX5_replace 27 = .ok (.invokevirtual 62, 3) := by decide +kernel
theorem dX5_replace_30 : decode cX5_replace 30 = .ok (.aload_n 0, 1) := by decide +kernel
theorem dX5_replace_31 : decode cX5_replace 31 = .ok (.iload_n 1, 1) := by decide +kernel
theorem dX5_replace_32 : decode cX5_replace 32 = .ok (.iload_n 2, 1) := by decide +kernel
theorem dX5_replace_33 : decode cX5_replace 33 = .ok (.invokevirtual 50, 3) := by decide +kernel
theorem dX5_replace_36 : decode cX5_replace 36 = .ok (.istore 4, 2) := by decide +kernel
theorem dX5_replace_38 : decode cX5_replace 38 = .ok (.iload 4, 2) := by decide +kernel
theorem dX5_replace_40 : decode cX5_replace 40 = .ok (.iconst (-1), 1) := by decide +kernel
theorem dX5_replace_41 : decode cX5_replace 41 = .ok (.if_icmp .eq 17, 3) := by decide +kernel
theorem dX5_replace_44 : decode cX5_replace 44 = .ok (.aload_n 0, 1) := by decide +kernel
theorem dX5_replace_45 : decode cX5_replace 45 = .ok (.getfield 13, 3) := by decide +kernel
theorem dX5_replace_48 : decode cX5_replace 48 = .ok (.sipush 201, 3) := by decide +kernel
theorem dX5_replace_51 : decode cX5_replace 51 = .ok (.iload_n 1, 1) := by decide +kernel
theorem dX5_replace_52 : decode cX5_replace 52 = .ok (.imul, 1) := by decide +kernel
theorem dX5_replace_53 : decode cX5_replace 53 = .ok (.iload 4, 2) := by decide +kernel
theorem dX5_replace_55 : decode cX5_replace 55 = .ok (.iadd, 1) := by decide +kernel
theorem dX5_replace_56 : decode cX5_replace 56 = .ok (.iload_n 3, 1) := by decide +kernel
theorem dX5_replace_57 : decode cX5_replace 57 = .ok (.iastore, 1) := by decide +kernel
theorem dX5_replace_58 : decode cX5_replace 58 = .ok (.aload_n 0, 1) := by decide +kernel
theorem dX5_replace_59 : decode cX5_replace 59 = .ok (.iload 4, 2) := by decide +kernel
theorem dX5_replace_61 : decode cX5_replace 61 = .ok (.iconst (-1), 1) := by decide +kernel
theorem dX5_replace_62 : decode cX5_replace 62 = .ok (.if_icmp .eq 7, 3) := by decide +kernel
theorem dX5_replace_65 : decode cX5_replace 65 = .ok (.iconst 1, 1) := by decide +kernel
theorem dX5_replace_66 : decode cX5_replace 66 = .ok (.goto 4, 3) := by decide +kernel
theorem dX5_replace_69 : decode cX5_replace 69 = .ok (.iconst 0, 1) := by decide +kernel
theorem dX5_replace_70 : decode cX5_replace 70 = .ok (.invokevirtual 82, 3) := by decide +kernel
theorem dX5_replace_73 : decode cX5_replace 73 = .ok (.ireturn, 1) := by decide +kernel
theorem dX5_remove_0 : decode cX5_remove 0 = .ok (.iload_n 1, 1) := by decide +kernel
theorem dX5_remove_1 : decode cX5_remove 1 = .ok (.invokestatic 68, 3) := by decide +kernel
theorem dX5_remove_4 : decode cX5_remove 4 = .ok (.ifCond .ne 9, 3) := by decide +kernel
theorem dX5_remove_7 : decode cX5_remove 7 = .ok (.aload_n 0, 1) := by decide +kernel
theorem dX5_remove_8 : decode cX5_remove 8 = .ok (.iconst 1, 1) := by decide +kernel
theorem dX5_remove_9 : decode cX5_remove 9 = .ok (.invokevirtual 58, 3) := by decide +kernel
theorem dX5_remove_12 : decode cX5_remove 12 = .ok (.ireturn, 1) := by decide +kernel
theorem dX5_remove_13 : decode cX5_remove 13 = .ok (.iload_n 1, 1) := by decide +kernel
theorem dX5_remove_14 : decode cX5_remove 14 = .ok (.iconst 3, 1) := by decide +kernel
theorem dX5_remove_15 : decode cX5_remove 15 = .ok (.if_icmp .ne 9, 3) := by decide +kernel
theorem dX5_remove_18 : decode cX5_remove 18 = .ok (.aload_n 0, 1) := by decide +kernel
theorem dX5_remove_19 : decode cX5_remove 19 = .ok (.iconst 2, 1) := by decide +kernel
theorem dX5_remove_20 : decode cX5_remove 20 = .ok (.invokevirtual 58, 3) := by decide +kernel
theorem dX5_remove_23 : decode cX5_remove 23 = .ok (.ireturn, 1) := by decide +kernel
theorem dX5_remove_24 : decode cX5_remove 24 = .ok (.aload_n 0, 1) := by decide +kernel
theorem dX5_remove_25 : decode cX5_remove 25 = .ok (.iload_n 1, 1) := by decide +kernel
theorem dX5_remove_26 : decode cX5_remove 26 = .ok (.iload_n 2, 1) := by decide +kernel
theorem dX5_remove_27 : decode cX5_remove 27 = .ok (.invokevirtual 50, 3) := by decide +kernel
theorem dX5_remove_30 : decode cX5_remove 30 = .ok (.istore_n 3, 1) := by decide +kernel
theorem dX5_remove_31 : decode cX5_remove 31 = .ok (.iload_n 3, 1) := by decide +kernel
theorem dX5_remove_32 : decode cX5_remove 32 = .ok (.iconst (-1), 1) := by decide +kernel
theorem dX5_remove_33 : decode cX5_remove 33 = .ok (.if_icmp .ne 9, 3) := by decide +kernel
theorem dX5_remove_36 : decode cX5_remove 36 = .ok (.aload_n 0, 1) := by decide +kernel
theorem dX5_remove_37 : decode cX5_remove 37 = .ok (.iconst 3, 1) := by decide +kernel
theorem dX5_remove_38 : decode cX5_remove 38 = .ok (.invokevirtual 58, 3) := by decide +kernel
theorem dX5_remove_41 : decode cX5_remove 41 = .ok (.ireturn, 1) := by decide +kernel
theorem dX5_remove_42 : decode cX5_remove 42 = .ok (.aload_n 0, 1) := by decide +kernel
theorem dX5_remove_43 : decode cX5_remove 43 = .ok (.getfield 13, 3) := by decide +kernel
theorem dX5_remove_46 : decode cX5_remove 46 = .ok (.sipush 201, 3) := by decide +kernel
theorem dX5_remove_49 : decode cX5_remove 49 = .ok (.iload_n 1, 1) := by decide +kernel
theorem dX5_remove_50 : decode cX5_remove 50 = .ok (.imul, 1) := by decide +kernel
theorem dX5_remove_51 : decode cX5_remove 51 = .ok (.iload_n 3, 1) := by decide +kernel
theorem dX5_remove_52 : decode cX5_remove 52 = .ok (.iadd, 1) := by decide +kernel
theorem dX5_remove_53 : decode cX5_remove 53 = .ok (.iaload, 1) := by decide +kernel
theorem dX5_remove_54 : decode cX5_remove 54 = .ok (.istore 4, 2) := by decide +kernel
theorem dX5_remove_56 : decode cX5_remove 56 = .ok (.aload_n 0, 1) := by decide +kernel
theorem dX5_remove_57 : decode cX5_remove 57 = .ok (.iload_n 1, 1) := by decide +kernel
theorem dX5_remove_58 : decode cX5_remove 58 = .ok (.iload_n 3, 1) := by decide +kernel
theorem dX5_remove_59 : decode cX5_remove 59 = .ok (.invokevirtual 46, 3) := by decide +kernel
theorem dX5_remove_62 : decode cX5_remove 62 = .ok (.aload_n 0, 1) := by decide +kernel
theorem dX5_remove_63 : decode cX5_remove 63 = .ok (.iload_n 1, 1) := by decide +kernel
theorem dX5_remove_64 : decode cX5_remove 64 = .ok (.iconst (-1), 1) := by decide +kernel
theorem dX5_remove_65 : decode cX5_remove 65 = .ok (.invokevirtual 62, 3) := by decide +kernel
theorem dX5_remove_68 : decode cX5_remove 68 = .ok (.aload_n 0, 1) := by decide +kernel
theorem dX5_remove_69 : decode cX5_remove 69 = .ok (.iload 4, 2) := by decide +kernel
theorem dX5_remove_71 : decode cX5_remove 71 = .ok (.invokevirtual 65, 3) := by decide +kernel
theorem dX5_remove_74 : decode cX5_remove 74 = .ok (.ireturn, 1) := by decide +kernel
theorem dX5_removePair_0 : decode cX5_removePair 0 = .ok (.iload_n 1, 1) := by decide +kernel
theorem dX5_removePair_1 : decode cX5_removePair 1 = .ok (.invokestatic 68, 3) := by decide +kernel
theorem dX5_removePair_4 : decode cX5_removePair 4 = .ok (.ifCond .ne 9, 3) := by decide +kernel
theorem dX5_removePair_7 : decode cX5_removePair 7 = .ok (.aload_n 0, 1) := by decide +kernel
theorem dX5_removePair_8 : decode cX5_removePair 8 = .ok (.iconst 1, 1) := by decide +kernel
theorem dX5_removePair_9 : decode cX5_removePair 9 = .ok (.invokevirtual 72, 3) := by decide +kernel
theorem dX5_removePair_12 : decode cX5_removePair 12 = .ok (.ireturn, 1) := by decide +kernel
theorem dX5_removePair_13 : decode cX5_removePair 13 = .ok (.iload_n 1, 1) := by decide +kernel
theorem dX5_removePair_14 : decode cX5_removePair 14 = .ok (.iconst 3, 1) := by decide +kernel
theorem dX5_removePair_15 : decode cX5_removePair 15 = .ok (.if_icmp .ne 9, 3) := by decide +kernel
theorem dX5_removePair_18 : decode cX5_removePair 18 = .ok (.aload_n 0, 1) := by decide +kernel
theorem dX5_removePair_19 : decode cX5_removePair 19 = .ok (.iconst 2, 1) := by decide +kernel
theorem dX5_removePair_20 : decode cX5_removePair 20 = .ok (.invokevirtual 72, 3) := by decide +kernel
theorem dX5_removePair_23 : decode cX5_removePair 23 = .ok (.ireturn, 1) := by decide +kernel
theorem dX5_removePair_24 : decode cX5_removePair 24 = .ok (.aload_n 0, 1) := by decide +kernel
theorem dX5_removePair_25 : decode cX5_removePair 25 = .ok (.iload_n 1, 1) := by decide +kernel
theorem dX5_removePair_26 : decode cX5_removePair 26 = .ok (.iconst (-1), 1) := by decide +kernel
theorem dX5_removePair_27 : decode cX5_removePair 27 = .ok (.invokevirtual 62, 3) := by decide +kernel
theorem dX5_removePair_30 : decode cX5_removePair 30 = .ok (.aload_n 0, 1) := by decide +kernel
theorem dX5_removePair_31 : decode cX5_removePair 31 = .ok (.iload_n 1, 1) := by decide +kernel
theorem dX5_removePair_32 : decode cX5_removePair 32 = .ok (.iload_n 2, 1) := by decide +kernel
theorem dX5_removePair_33 : decode cX5_removePair 33 = .ok (.invokevirtual 50, 3) := by decide +kernel
theorem dX5_removePair_36 : decode cX5_removePair 36 = .ok (.istore 4, 2) := by decide +kernel
theorem dX5_removePair_38 : decode cX5_removePair 38 = .ok (.iload 4, 2) := by decide +kernel
theorem dX5_removePair_40 : decode cX5_removePair 40 = .ok (.iconst (-1), 1) := by decide +kernel
theorem dX5_removePair_41 : decode cX5_removePair 41 = .ok (.if_icmp .eq 20, 3) := by decide +kernel
theorem dX5_removePair_44 : decode cX5_removePair 44 = .ok (.aload_n 0, 1) := by decide +kernel
theorem dX5_removePair_45 : decode cX5_removePair 45 = .ok (.getfield 13, 3) := by decide +kernel
theorem dX5_removePair_48 : decode cX5_removePair 48 = .ok (.sipush 201, 3) := by decide +kernel
theorem dX5_removePair_51 : decode cX5_removePair 51 = .ok (.iload_n 1, 1) := by decide +kernel
theorem dX5_removePair_52 : decode cX5_removePair 52 = .ok (.imul, 1) := by decide +kernel
theorem dX5_removePair_53 : decode cX5_removePair 53 = .ok (.iload 4, 2) := by decide +kernel
theorem dX5_removePair_55 : decode cX5_removePair 55 = .ok (.iadd, 1) := by decide +kernel
theorem dX5_removePair_56 : decode cX5_removePair 56 = .ok (.iaload, 1) := by decide +kernel
theorem dX5_removePair_57 : decode cX5_removePair 57 = .ok (.iload_n 3, 1) := by decide +kernel
theorem dX5_removePair_58 : decode cX5_removePair 58 = .ok (.if_icmp .eq 9, 3) := by decide +kernel
theorem dX5_removePair_61 : decode cX5_removePair 61 = .ok (.aload_n 0, 1) := by decide +kernel
theorem dX5_removePair_62 : decode cX5_removePair 62 = .ok (.iconst 0, 1) := by decide +kernel
theorem dX5_removePair_63 : decode cX5_removePair 63 = .ok (.invokevirtual 82, 3) := by decide +kernel
theorem dX5_removePair_66 : decode cX5_removePair 66 = .ok (.ireturn, 1) := by decide +kernel
theorem dX5_removePair_67 : decode cX5_removePair 67 = .ok (.aload_n 0, 1) := by decide +kernel
theorem dX5_removePair_68 : decode cX5_removePair 68 = .ok (.iload_n 1, 1) := by decide +kernel
theorem dX5_removePair_69 : decode cX5_removePair 69 = .ok (.iload 4, 2) := by decide +kernel
theorem dX5_removePair_71 : decode cX5_removePair 71 = .ok (.invokevirtual 46, 3) := by decide +kernel
theorem dX5_removePair_74 : decode cX5_removePair 74 = .ok (.aload_n 0, 1) := by decide +kernel
theorem dX5_removePair_75 : decode cX5_removePair 75 = .ok (.iconst 1, 1) := by decide +kernel
theorem dX5_removePair_76 : decode cX5_removePair 76 = .ok (.invokevirtual 82, 3) := by decide +kernel
theorem dX5_removePair_79 : decode cX5_removePair 79 = .ok (.ireturn, 1) := by decide +kernel
theorem dX5_fill_0 : decode cX5_fill 0 = .ok (.iload_n 1, 1) := by decide +kernel
theorem dX5_fill_1 : decode cX5_fill 1 = .ok (.invokestatic 68, 3) := by decide +kernel
theorem dX5_fill_4 : decode cX5_fill 4 = .ok (.ifCond .ne 9, 3) := by decide +kernel
theorem dX5_fill_7 : decode cX5_fill 7 = .ok (.aload_n 0, 1) := by decide +kernel
theorem dX5_fill_8 : decode cX5_fill 8 = .ok (.iconst 1, 1) := by decide +kernel
theorem dX5_fill_9 : decode cX5_fill 9 = .ok (.invokevirtual 58, 3) := by decide +kernel
theorem dX5_fill_12 : decode cX5_fill 12 = .ok (.ireturn, 1) := by decide +kernel
theorem dX5_fill_13 : decode cX5_fill 13 = .ok (.iload_n 1, 1) := by decide +kernel
theorem dX5_fill_14 : decode cX5_fill 14 = .ok (.iconst 3, 1) := by decide +kernel
theorem dX5_fill_15 : decode cX5_fill 15 = .ok (.if_icmp .eq 14, 3) := by decide +kernel
theorem dX5_fill_18 : decode cX5_fill 18 = .ok (.iload 4, 2) := by decide +kernel
theorem dX5_fill_20 : decode cX5_fill 20 = .ok (.iconst 0, 1) := by decide +kernel
theorem dX5_fill_21 : decode cX5_fill 21 = .ok (.bipush 60, 2) := by decide +kernel
theorem dX5_fill_23 : decode cX5_fill 23 = .ok (.invokestatic 42, 3) := by decide +kernel
theorem dX5_fill_26 : decode cX5_fill 26 = .ok (.ifCond .ne 9, 3) := by decide +kernel
theorem dX5_fill_29 : decode cX5_fill 29 = .ok (.aload_n 0, 1) := by decide +kernel
theorem dX5_fill_30 : decode cX5_fill 30 = .ok (.iconst 2, 1) := by decide +kernel
theorem dX5_fill_31 : decode cX5_fill 31 = .ok (.invokevirtual 58, 3) := by decide +kernel
theorem dX5_fill_34 : decode cX5_fill 34 = .ok (.ireturn, 1) := by decide +kernel
theorem dX5_fill_35 : decode cX5_fill 35 = .ok (.iload_n 1, 1) := by decide +kernel
theorem dX5_fill_36 : decode cX5_fill 36 = .ok (.invokestatic 86, 3) := by decide +kernel
theorem dX5_fill_39 : decode cX5_fill 39 = .ok (.ifCond .eq 21, 3) := by decide +kernel
theorem dX5_fill_42 : decode cX5_fill 42 = .ok (.aload_n 0, 1) := by decide +kernel
theorem dX5_fill_43 : decode cX5_fill 43 = .ok (.getfield 16, 3) := by decide +kernel
theorem dX5_fill_46 : decode cX5_fill 46 = .ok (.iload_n 1, 1) := by decide +kernel
theorem dX5_fill_47 : decode cX5_fill 47 = .ok (.iaload, 1) := by decide +kernel
theorem dX5_fill_48 : decode cX5_fill 48 = .ok (.sipush 140, 3) := by decide +kernel
theorem dX5_fill_51 : decode cX5_fill 51 = .ok (.if_icmp .le 9, 3) := by decide +kernel
theorem dX5_fill_54 : decode cX5_fill 54 = .ok (.aload_n 0, 1) := by decide +kernel
theorem dX5_fill_55 : decode cX5_fill 55 = .ok (.iconst 3, 1) := by decide +kernel
theorem dX5_fill_56 : decode cX5_fill 56 = .ok (.invokevirtual 58, 3) := by decide +kernel
theorem dX5_fill_59 : decode cX5_fill 59 = .ok (.ireturn, 1) := by decide +kernel
theorem dX5_fill_60 : decode cX5_fill 60 = .ok (.iload_n 2, 1) := by decide +kernel
theorem dX5_fill_61 : decode cX5_fill 61 = .ok (.istore 5, 2) := by decide +kernel
theorem dX5_fill_63 : decode cX5_fill 63 = .ok (.iconst 0, 1) := by decide +kernel
theorem dX5_fill_64 : decode cX5_fill 64 = .ok (.istore 6, 2) := by decide +kernel
theorem dX5_fill_66 : decode cX5_fill 66 = .ok (.iload 6, 2) := by decide +kernel
theorem dX5_fill_68 : decode cX5_fill 68 = .ok (.iload 4, 2) := by decide +kernel
theorem dX5_fill_70 : decode cX5_fill 70 = .ok (.if_icmp .ge 23, 3) := by decide +kernel
theorem dX5_fill_73 : decode cX5_fill 73 = .ok (.aload_n 0, 1) := by decide +kernel
theorem dX5_fill_74 : decode cX5_fill 74 = .ok (.iload_n 1, 1) := by decide +kernel
theorem dX5_fill_75 : decode cX5_fill 75 = .ok (.iload 5, 2) := by decide +kernel
theorem dX5_fill_77 : decode cX5_fill 77 = .ok (.iconst 0, 1) := by decide +kernel
theorem dX5_fill_78 : decode cX5_fill 78 = .ok (.invokevirtual 79, 3) := by decide +kernel
theorem dX5_fill_81 : decode cX5_fill 81 = .ok (.iload 5, 2) := by decide +kernel
theorem dX5_fill_83 : decode cX5_fill 83 = .ok (.iload_n 3, 1) := by decide +kernel
theorem dX5_fill_84 : decode cX5_fill 84 = .ok (.iadd, 1) := by decide +kernel
theorem dX5_fill_85 : decode cX5_fill 85 = .ok (.istore 5, 2) := by decide +kernel
theorem dX5_fill_87 : decode cX5_fill 87 = .ok (.iinc 6 1, 3) := by decide +kernel
theorem dX5_fill_90 : decode cX5_fill 90 = .ok (.goto (-24), 3) := by decide +kernel
theorem dX5_fill_93 : decode cX5_fill 93 = .ok (.aload_n 0, 1) := by decide +kernel
theorem dX5_fill_94 : decode cX5_fill 94 = .ok (.iload_n 1, 1) := by decide +kernel
theorem dX5_fill_95 : decode cX5_fill 95 = .ok (.iconst (-1), 1) := by decide +kernel
theorem dX5_fill_96 : decode cX5_fill 96 = .ok (.invokevirtual 62, 3) := by decide +kernel
theorem dX5_fill_99 : decode cX5_fill 99 = .ok (.aload_n 0, 1) := by decide +kernel
theorem dX5_fill_100 : decode cX5_fill 100 = .ok (.aload_n 0, 1) := by decide +kernel
theorem dX5_fill_101 : decode cX5_fill 101 = .ok (.getfield 16, 3) := by decide +kernel
theorem dX5_fill_104 : decode cX5_fill 104 = .ok (.iload_n 1, 1) := by decide +kernel
theorem dX5_fill_105 : decode cX5_fill 105 = .ok (.iaload, 1) := by decide +kernel
theorem dX5_fill_106 : decode cX5_fill 106 = .ok (.invokevirtual 65, 3) := by decide +kernel
theorem dX5_fill_109 : decode cX5_fill 109 = .ok (.ireturn, 1) := by decide +kernel
theorem dX5_pour_0 : decode cX5_pour 0 = .ok (.iload_n 1, 1) := by decide +kernel
theorem dX5_pour_1 : decode cX5_pour 1 = .ok (.invokestatic 68, 3) := by decide +kernel
theorem dX5_pour_4 : decode cX5_pour 4 = .ok (.ifCond .eq 10, 3) := by decide +kernel
theorem dX5_pour_7 : decode cX5_pour 7 = .ok (.iload_n 2, 1) := by decide +kernel
theorem dX5_pour_8 : decode cX5_pour 8 = .ok (.invokestatic 68, 3) := by decide +kernel
theorem dX5_pour_11 : decode cX5_pour 11 = .ok (.ifCond .ne 9, 3) := by decide +kernel
theorem dX5_pour_14 : decode cX5_pour 14 = .ok (.aload_n 0, 1) := by decide +kernel
theorem dX5_pour_15 : decode cX5_pour 15 = .ok (.iconst 1, 1) := by decide +kernel
theorem dX5_pour_16 : decode cX5_pour 16 = .ok (.invokevirtual 58, 3) := by decide +kernel
theorem dX5_pour_19 : decode cX5_pour 19 = .ok (.ireturn, 1) := by decide +kernel
theorem dX5_pour_20 : decode cX5_pour 20 = .ok (.iload_n 2, 1) := by decide +kernel
theorem dX5_pour_21 : decode cX5_pour 21 = .ok (.iconst 3, 1) := by decide +kernel
theorem dX5_pour_22 : decode cX5_pour 22 = .ok (.if_icmp .eq 8, 3) := by decide +kernel
theorem dX5_pour_25 : decode cX5_pour 25 = .ok (.iload_n 1, 1) := by decide +kernel
theorem dX5_pour_26 : decode cX5_pour 26 = .ok (.iload_n 2, 1) := by decide +kernel
theorem dX5_pour_27 : decode cX5_pour 27 = .ok (.if_icmp .ne 9, 3) := by decide +kernel
theorem dX5_pour_30 : decode cX5_pour 30 = .ok (.aload_n 0, 1) := by decide +kernel
theorem dX5_pour_31 : decode cX5_pour 31 = .ok (.iconst 2, 1) := by decide +kernel
theorem dX5_pour_32 : decode cX5_pour 32 = .ok (.invokevirtual 58, 3) := by decide +kernel
theorem dX5_pour_35 : decode cX5_pour 35 = .ok (.ireturn, 1) := by decide +kernel
theorem dX5_pour_36 : decode cX5_pour 36 = .ok (.iconst 0, 1) := by decide +kernel
theorem dX5_pour_37 : decode cX5_pour 37 = .ok (.istore_n 3, 1) := by decide +kernel
theorem dX5_pour_38 : decode cX5_pour 38 = .ok (.iconst 0, 1) := by decide +kernel
theorem dX5_pour_39 : decode cX5_pour 39 = .ok (.istore 4, 2) := by decide +kernel
theorem dX5_pour_41 : decode cX5_pour 41 = .ok (.iload 4, 2) := by decide +kernel
theorem dX5_pour_43 : decode cX5_pour 43 = .ok (.aload_n 0, 1) := by decide +kernel
theorem dX5_pour_44 : decode cX5_pour 44 = .ok (.getfield 16, 3) := by decide +kernel
theorem dX5_pour_47 : decode cX5_pour 47 = .ok (.iload_n 1, 1) := by decide +kernel
theorem dX5_pour_48 : decode cX5_pour 48 = .ok (.iaload, 1) := by decide +kernel
theorem dX5_pour_49 : decode cX5_pour 49 = .ok (.if_icmp .ge 39, 3) := by decide +kernel
theorem dX5_pour_52 : decode cX5_pour 52 = .ok (.iload_n 3, 1) := by decide +kernel
theorem dX5_pour_53 : decode cX5_pour 53 = .ok (.aload_n 0, 1) := by decide +kernel
theorem dX5_pour_54 : decode cX5_pour 54 = .ok (.iload_n 2, 1) := by decide +kernel
theorem dX5_pour_55 : decode cX5_pour 55 = .ok (.aload_n 0, 1) := by decide +kernel
theorem dX5_pour_56 : decode cX5_pour 56 = .ok (.getfield 7, 3) := by decide +kernel
theorem dX5_pour_59 : decode cX5_pour 59 = .ok (.sipush 201, 3) := by decide +kernel
theorem dX5_pour_62 : decode cX5_pour 62 = .ok (.iload_n 1, 1) := by decide +kernel
theorem dX5_pour_63 : decode cX5_pour 63 = .ok (.imul, 1) := by decide +kernel
theorem dX5_pour_64 : decode cX5_pour 64 = .ok (.iload 4, 2) := by decide +kernel
theorem dX5_pour_66 : decode cX5_pour 66 = .ok (.iadd, 1) := by decide +kernel
theorem dX5_pour_67 : decode cX5_pour 67 = .ok (.iaload, 1) := by decide +kernel
theorem dX5_pour_68 : decode cX5_pour 68 = .ok (.invokevirtual 50, 3) := by decide +kernel
theorem dX5_pour_71 : decode cX5_pour 71 = .ok (.iconst (-1), 1) := by decide +kernel
theorem dX5_pour_72 : decode cX5_pour 72 = .ok (.if_icmp .ne 7, 3) := by decide +kernel
theorem dX5_pour_75 : decode cX5_pour 75 = .ok (.iconst 1, 1) := by decide +kernel
theorem dX5_pour_76 : decode cX5_pour 76 = .ok (.goto 4, 3) := by decide +kernel
theorem dX5_pour_79 : decode cX5_pour 79 = .ok (.iconst 0, 1) := by decide +kernel
theorem dX5_pour_80 : decode cX5_pour 80 = .ok (.iadd, 1) := by decide +kernel
theorem dX5_pour_81 : decode cX5_pour 81 = .ok (.istore_n 3, 1) := by decide +kernel
theorem dX5_pour_82 : decode cX5_pour 82 = .ok (.iinc 4 1, 3) := by decide +kernel
end
section
theorem dX5_pour_85 : decode cX5_pour 85 = .ok (.goto (-44), 3) := by decide +kernel
theorem dX5_pour_88 : decode cX5_pour 88 = .ok (.iload_n 2, 1) := by decide +kernel
theorem dX5_pour_89 : decode cX5_pour 89 = .ok (.invokestatic 86, 3) := by decide +kernel
theorem dX5_pour_92 : decode cX5_pour 92 = .ok (.ifCond .eq 23, 3) := by decide +kernel
theorem dX5_pour_95 : decode cX5_pour 95 = .ok (.aload_n 0, 1) := by decide +kernel
theorem dX5_pour_96 : decode cX5_pour 96 = .ok (.getfield 16, 3) := by decide +kernel
theorem dX5_pour_99 : decode cX5_pour 99 = .ok (.iload_n 2, 1) := by decide +kernel
theorem dX5_pour_100 : decode cX5_pour 100 = .ok (.iaload, 1) := by decide +kernel
theorem dX5_pour_101 : decode cX5_pour 101 = .ok (.iload_n 3, 1) := by decide +kernel
theorem dX5_pour_102 : decode cX5_pour 102 = .ok (.iadd, 1) := by decide +kernel
theorem dX5_pour_103 : decode cX5_pour 103 = .ok (.sipush 200, 3) := by decide +kernel
theorem dX5_pour_106 : decode cX5_pour 106 = .ok (.if_icmp .le 9, 3) := by decide +kernel
theorem dX5_pour_109 : decode cX5_pour 109 = .ok (.aload_n 0, 1) := by decide +kernel
theorem dX5_pour_110 : decode cX5_pour 110 = .ok (.iconst 3, 1) := by decide +kernel
theorem dX5_pour_111 : decode cX5_pour 111 = .ok (.invokevirtual 58, 3) := by decide +kernel
theorem dX5_pour_114 : decode cX5_pour 114 = .ok (.ireturn, 1) := by decide +kernel
theorem dX5_pour_115 : decode cX5_pour 115 = .ok (.iconst 0, 1) := by decide +kernel
theorem dX5_pour_116 : decode cX5_pour 116 = .ok (.istore 4, 2) := by decide +kernel
theorem dX5_pour_118 : decode cX5_pour 118 = .ok (.iload 4, 2) := by decide +kernel
theorem dX5_pour_120 : decode cX5_pour 120 = .ok (.aload_n 0, 1) := by decide +kernel
theorem dX5_pour_121 : decode cX5_pour 121 = .ok (.getfield 16, 3) := by decide +kernel
theorem dX5_pour_124 : decode cX5_pour 124 = .ok (.iload_n 1, 1) := by decide +kernel
theorem dX5_pour_125 : decode cX5_pour 125 = .ok (.iaload, 1) := by decide +kernel
theorem dX5_pour_126 : decode cX5_pour 126 = .ok (.if_icmp .ge 40, 3) := by decide +kernel
theorem dX5_pour_129 : decode cX5_pour 129 = .ok (.aload_n 0, 1) := by decide +kernel
theorem dX5_pour_130 : decode cX5_pour 130 = .ok (.iload_n 2, 1) := by decide +kernel
theorem dX5_pour_131 : decode cX5_pour 131 = .ok (.aload_n 0, 1) := by decide +kernel
theorem dX5_pour_132 : decode cX5_pour 132 = .ok (.getfield 7, 3) := by decide +kernel
theorem dX5_pour_135 : decode cX5_pour 135 = .ok (.sipush 201, 3) := by decide +kernel
theorem dX5_pour_138 : decode cX5_pour 138 = .ok (.iload_n 1, 1) := by decide +kernel
theorem dX5_pour_139 : decode cX5_pour 139 = .ok (.imul, 1) := by decide +kernel
theorem dX5_pour_140 : decode cX5_pour 140 = .ok (.iload 4, 2) := by decide +kernel
theorem dX5_pour_142 : decode cX5_pour 142 = .ok (.iadd, 1) := by decide +kernel
theorem dX5_pour_143 : decode cX5_pour 143 = .ok (.iaload, 1) := by decide +kernel
theorem dX5_pour_144 : decode cX5_pour 144 = .ok (.aload_n 0, 1) := by decide +kernel
theorem dX5_pour_145 : decode cX5_pour 145 = .ok (.getfield 13, 3) := by decide +kernel
theorem dX5_pour_148 : decode cX5_pour 148 = .ok (.sipush 201, 3) := by decide +kernel
theorem dX5_pour_151 : decode cX5_pour 151 = .ok (.iload_n 1, 1) := by decide +kernel
theorem dX5_pour_152 : decode cX5_pour 152 = .ok (.imul, 1) := by decide +kernel
theorem dX5_pour_153 : decode cX5_pour 153 = .ok (.iload 4, 2) := by decide +kernel
theorem dX5_pour_155 : decode cX5_pour 155 = .ok (.iadd, 1) := by decide +kernel
theorem dX5_pour_156 : decode cX5_pour 156 = .ok (.iaload, 1) := by decide +kernel
theorem dX5_pour_157 : decode cX5_pour 157 = .ok (.invokevirtual 79, 3) := by decide +kernel
theorem dX5_pour_160 : decode cX5_pour 160 = .ok (.iinc 4 1, 3) := by decide +kernel
theorem dX5_pour_163 : decode cX5_pour 163 = .ok (.goto (-45), 3) := by decide +kernel
theorem dX5_pour_166 : decode cX5_pour 166 = .ok (.aload_n 0, 1) := by decide +kernel
theorem dX5_pour_167 : decode cX5_pour 167 = .ok (.iload_n 2, 1) := by decide +kernel
theorem dX5_pour_168 : decode cX5_pour 168 = .ok (.iconst (-1), 1) := by decide +kernel
theorem dX5_pour_169 : decode cX5_pour 169 = .ok (.invokevirtual 62, 3) := by decide +kernel
theorem dX5_pour_172 : decode cX5_pour 172 = .ok (.aload_n 0, 1) := by decide +kernel
theorem dX5_pour_173 : decode cX5_pour 173 = .ok (.aload_n 0, 1) := by decide +kernel
theorem dX5_pour_174 : decode cX5_pour 174 = .ok (.getfield 16, 3) := by decide +kernel
theorem dX5_pour_177 : decode cX5_pour 177 = .ok (.iload_n 2, 1) := by decide +kernel
theorem dX5_pour_178 : decode cX5_pour 178 = .ok (.iaload, 1) := by decide +kernel
theorem dX5_pour_179 : decode cX5_pour 179 = .ok (.invokevirtual 65, 3) := by decide +kernel
theorem dX5_pour_182 : decode cX5_pour 182 = .ok (.ireturn, 1) := by decide +kernel
theorem dX5_copy_0 : decode cX5_copy 0 = .ok (.iload_n 1, 1) := by decide +kernel
theorem dX5_copy_1 : decode cX5_copy 1 = .ok (.invokestatic 68, 3) := by decide +kernel
theorem dX5_copy_4 : decode cX5_copy 4 = .ok (.ifCond .eq 10, 3) := by decide +kernel
theorem dX5_copy_7 : decode cX5_copy 7 = .ok (.iload_n 2, 1) := by decide +kernel
theorem dX5_copy_8 : decode cX5_copy 8 = .ok (.invokestatic 68, 3) := by decide +kernel
theorem dX5_copy_11 : decode cX5_copy 11 = .ok (.ifCond .ne 9, 3) := by decide +kernel
theorem dX5_copy_14 : decode cX5_copy 14 = .ok (.aload_n 0, 1) := by decide +kernel
theorem dX5_copy_15 : decode cX5_copy 15 = .ok (.iconst 1, 1) := by decide +kernel
theorem dX5_copy_16 : decode cX5_copy 16 = .ok (.invokevirtual 58, 3) := by decide +kernel
theorem dX5_copy_19 : decode cX5_copy 19 = .ok (.ireturn, 1) := by decide +kernel
theorem dX5_copy_20 : decode cX5_copy 20 = .ok (.iload_n 2, 1) := by decide +kernel
theorem dX5_copy_21 : decode cX5_copy 21 = .ok (.invokestatic 86, 3) := by decide +kernel
theorem dX5_copy_24 : decode cX5_copy 24 = .ok (.ifCond .eq 8, 3) := by decide +kernel
theorem dX5_copy_27 : decode cX5_copy 27 = .ok (.iload_n 1, 1) := by decide +kernel
theorem dX5_copy_28 : decode cX5_copy 28 = .ok (.iload_n 2, 1) := by decide +kernel
theorem dX5_copy_29 : decode cX5_copy 29 = .ok (.if_icmp .ne 9, 3) := by decide +kernel
theorem dX5_copy_32 : decode cX5_copy 32 = .ok (.aload_n 0, 1) := by decide +kernel
theorem dX5_copy_33 : decode cX5_copy 33 = .ok (.iconst 2, 1) := by decide +kernel
theorem dX5_copy_34 : decode cX5_copy 34 = .ok (.invokevirtual 58, 3) := by decide +kernel
theorem dX5_copy_37 : decode cX5_copy 37 = .ok (.ireturn, 1) := by decide +kernel
theorem dX5_copy_38 : decode cX5_copy 38 = .ok (.iconst 0, 1) := by decide +kernel
theorem dX5_copy_39 : decode cX5_copy 39 = .ok (.istore_n 3, 1) := by decide +kernel
theorem dX5_copy_40 : decode cX5_copy 40 = .ok (.iload_n 3, 1) := by decide +kernel
theorem dX5_copy_41 : decode cX5_copy 41 = .ok (.aload_n 0, 1) := by decide +kernel
theorem dX5_copy_42 : decode cX5_copy 42 = .ok (.getfield 16, 3) := by decide +kernel
theorem dX5_copy_45 : decode cX5_copy 45 = .ok (.iload_n 1, 1) := by decide +kernel
theorem dX5_copy_46 : decode cX5_copy 46 = .ok (.iaload, 1) := by decide +kernel
theorem dX5_copy_47 : decode cX5_copy 47 = .ok (.if_icmp .ge 57, 3) := by decide +kernel
theorem dX5_copy_50 : decode cX5_copy 50 = .ok (.aload_n 0, 1) := by decide +kernel
theorem dX5_copy_51 : decode cX5_copy 51 = .ok (.getfield 7, 3) := by decide +kernel
theorem dX5_copy_54 : decode cX5_copy 54 = .ok (.sipush 201, 3) := by decide +kernel
theorem dX5_copy_57 : decode cX5_copy 57 = .ok (.iload_n 2, 1) := by decide +kernel
theorem dX5_copy_58 : decode cX5_copy 58 = .ok (.imul, 1) := by decide +kernel
theorem dX5_copy_59 : decode cX5_copy 59 = .ok (.iload_n 3, 1) := by decide +kernel
theorem dX5_copy_60 : decode cX5_copy 60 = .ok (.iadd, 1) := by decide +kernel
theorem dX5_copy_61 : decode cX5_copy 61 = .ok (.aload_n 0, 1) := by decide +kernel
theorem dX5_copy_62 : decode cX5_copy 62 = .ok (.getfield 7, 3) := by decide +kernel
theorem dX5_copy_65 : decode cX5_copy 65 = .ok (.sipush 201, 3) := by decide +kernel
theorem dX5_copy_68 : decode cX5_copy 68 = .ok (.iload_n 1, 1) := by decide +kernel
theorem dX5_copy_69 : decode cX5_copy 69 = .ok (.imul, 1) := by decide +kernel
theorem dX5_copy_70 : decode cX5_copy 70 = .ok (.iload_n 3, 1) := by decide +kernel
theorem dX5_copy_71 : decode cX5_copy 71 = .ok (.iadd, 1) := by decide +kernel
theorem dX5_copy_72 : decode cX5_copy 72 = .ok (.iaload, 1) := by decide +kernel
theorem dX5_copy_73 : decode cX5_copy 73 = .ok (.iastore, 1) := by decide +kernel
theorem dX5_copy_74 : decode cX5_copy 74 = .ok (.aload_n 0, 1) := by decide +kernel
theorem dX5_copy_75 : decode cX5_copy 75 = .ok (.getfield 13, 3) := by decide +kernel
theorem dX5_copy_78 : decode cX5_copy 78 = .ok (.sipush 201, 3) := by decide +kernel
theorem dX5_copy_81 : decode cX5_copy 81 = .ok (.iload_n 2, 1) := by decide +kernel
theorem dX5_copy_82 : decode cX5_copy 82 = .ok (.imul, 1) := by decide +kernel
theorem dX5_copy_83 : decode cX5_copy 83 = .ok (.iload_n 3, 1) := by decide +kernel
theorem dX5_copy_84 : decode cX5_copy 84 = .ok (.iadd, 1) := by decide +kernel
theorem dX5_copy_85 : decode cX5_copy 85 = .ok (.aload_n 0, 1) := by decide +kernel
theorem dX5_copy_86 : decode cX5_copy 86 = .ok (.getfield 13, 3) := by decide +kernel
theorem dX5_copy_89 : decode cX5_copy 89 = .ok (.sipush 201, 3) := by decide +kernel
theorem dX5_copy_92 : decode cX5_copy 92 = .ok (.iload_n 1, 1) := by decide +kernel
theorem dX5_copy_93 : decode cX5_copy 93 = .ok (.imul, 1) := by decide +kernel
theorem dX5_copy_94 : decode cX5_copy 94 = .ok (.iload_n 3, 1) := by decide +kernel
theorem dX5_copy_95 : decode cX5_copy 95 = .ok (.iadd, 1) := by decide +kernel
theorem dX5_copy_96 : decode cX5_copy 96 = .ok (.iaload, 1) := by decide +kernel
theorem dX5_copy_97 : decode cX5_copy 97 = .ok (.iastore, 1) := by decide +kernel
theorem dX5_copy_98 : decode cX5_copy 98 = .ok (.iinc 3 1, 3) := by decide +kernel
theorem dX5_copy_101 : decode cX5_copy 101 = .ok (.goto (-61), 3) := by decide +kernel
theorem dX5_copy_104 : decode cX5_copy 104 = .ok (.aload_n 0, 1) := by decide +kernel
theorem dX5_copy_105 : decode cX5_copy 105 = .ok (.getfield 16, 3) := by decide +kernel
theorem dX5_copy_108 : decode cX5_copy 108 = .ok (.iload_n 2, 1) := by decide +kernel
theorem dX5_copy_109 : decode cX5_copy 109 = .ok (.aload_n 0, 1) := by decide +kernel
theorem dX5_copy_110 : decode cX5_copy 110 = .ok (.getfield 16, 3) := by decide +kernel
theorem dX5_copy_113 : decode cX5_copy 113 = .ok (.iload_n 1, 1) := by decide +kernel
theorem dX5_copy_114 : decode cX5_copy 114 = .ok (.iaload, 1) := by decide +kernel
theorem dX5_copy_115 : decode cX5_copy 115 = .ok (.iastore, 1) := by decide +kernel
theorem dX5_copy_116 : decode cX5_copy 116 = .ok (.aload_n 0, 1) := by decide +kernel
theorem dX5_copy_117 : decode cX5_copy 117 = .ok (.iload_n 2, 1) := by decide +kernel
theorem dX5_copy_118 : decode cX5_copy 118 = .ok (.iconst (-1), 1) := by decide +kernel
theorem dX5_copy_119 : decode cX5_copy 119 = .ok (.invokevirtual 62, 3) := by decide +kernel
theorem dX5_copy_122 : decode cX5_copy 122 = .ok (.aload_n 0, 1) := by decide +kernel
theorem dX5_copy_123 : decode cX5_copy 123 = .ok (.aload_n 0, 1) := by decide +kernel
theorem dX5_copy_124 : decode cX5_copy 124 = .ok (.getfield 16, 3) := by decide +kernel
theorem dX5_copy_127 : decode cX5_copy 127 = .ok (.iload_n 2, 1) := by decide +kernel
theorem dX5_copy_128 : decode cX5_copy 128 = .ok (.iaload, 1) := by decide +kernel
theorem dX5_copy_129 : decode cX5_copy 129 = .ok (.invokevirtual 65, 3) := by decide +kernel
theorem dX5_copy_132 : decode cX5_copy 132 = .ok (.ireturn, 1) := by decide +kernel
theorem dX5_clear_0 : decode cX5_clear 0 = .ok (.iload_n 1, 1) := by decide +kernel
theorem dX5_clear_1 : decode cX5_clear 1 = .ok (.invokestatic 68, 3) := by decide +kernel
theorem dX5_clear_4 : decode cX5_clear 4 = .ok (.ifCond .ne 9, 3) := by decide +kernel
theorem dX5_clear_7 : decode cX5_clear 7 = .ok (.aload_n 0, 1) := by decide +kernel
theorem dX5_clear_8 : decode cX5_clear 8 = .ok (.iconst 1, 1) := by decide +kernel
theorem dX5_clear_9 : decode cX5_clear 9 = .ok (.invokevirtual 58, 3) := by decide +kernel
theorem dX5_clear_12 : decode cX5_clear 12 = .ok (.ireturn, 1) := by decide +kernel
theorem dX5_clear_13 : decode cX5_clear 13 = .ok (.iload_n 1, 1) := by decide +kernel
theorem dX5_clear_14 : decode cX5_clear 14 = .ok (.iconst 3, 1) := by decide +kernel
theorem dX5_clear_15 : decode cX5_clear 15 = .ok (.if_icmp .ne 9, 3) := by decide +kernel
theorem dX5_clear_18 : decode cX5_clear 18 = .ok (.aload_n 0, 1) := by decide +kernel
theorem dX5_clear_19 : decode cX5_clear 19 = .ok (.iconst 2, 1) := by decide +kernel
theorem dX5_clear_20 : decode cX5_clear 20 = .ok (.invokevirtual 58, 3) := by decide +kernel
theorem dX5_clear_23 : decode cX5_clear 23 = .ok (.ireturn, 1) := by decide +kernel
theorem dX5_clear_24 : decode cX5_clear 24 = .ok (.aload_n 0, 1) := by decide +kernel
theorem dX5_clear_25 : decode cX5_clear 25 = .ok (.getfield 16, 3) := by decide +kernel
theorem dX5_clear_28 : decode cX5_clear 28 = .ok (.iload_n 1, 1) := by decide +kernel
theorem dX5_clear_29 : decode cX5_clear 29 = .ok (.iaload, 1) := by decide +kernel
theorem dX5_clear_30 : decode cX5_clear 30 = .ok (.istore_n 2, 1) := by decide +kernel
theorem dX5_clear_31 : decode cX5_clear 31 = .ok (.aload_n 0, 1) := by decide +kernel
theorem dX5_clear_32 : decode cX5_clear 32 = .ok (.getfield 16, 3) := by decide +kernel
theorem dX5_clear_35 : decode cX5_clear 35 = .ok (.iload_n 1, 1) := by decide +kernel
theorem dX5_clear_36 : decode cX5_clear 36 = .ok (.iconst 0, 1) := by decide +kernel
theorem dX5_clear_37 : decode cX5_clear 37 = .ok (.iastore, 1) := by decide +kernel
theorem dX5_clear_38 : decode cX5_clear 38 = .ok (.aload_n 0, 1) := by decide +kernel
theorem dX5_clear_39 : decode cX5_clear 39 = .ok (.iload_n 1, 1) := by decide +kernel
theorem dX5_clear_40 : decode cX5_clear 40 = .ok (.iconst (-1), 1) := by decide +kernel
theorem dX5_clear_41 : decode cX5_clear 41 = .ok (.invokevirtual 62, 3) := by decide +kernel
theorem dX5_clear_44 : decode cX5_clear 44 = .ok (.aload_n 0, 1) := by decide +kernel
theorem dX5_clear_45 : decode cX5_clear 45 = .ok (.iload_n 2, 1) := by decide +kernel
theorem dX5_clear_46 : decode cX5_clear 46 = .ok (.invokevirtual 65, 3) := by decide +kernel
theorem dX5_clear_49 : decode cX5_clear 49 = .ok (.ireturn, 1) := by decide +kernel
theorem dX5_offer_0 : decode cX5_offer 0 = .ok (.aload_n 0, 1) := by decide +kernel
theorem dX5_offer_1 : decode cX5_offer 1 = .ok (.iconst 3, 1) := by decide +kernel
theorem dX5_offer_2 : decode cX5_offer 2 = .ok (.iload_n 1, 1) := by decide +kernel
theorem dX5_offer_3 : decode cX5_offer 3 = .ok (.invokevirtual 75, 3) := by decide +kernel
theorem dX5_offer_6 : decode cX5_offer 6 = .ok (.ifCond .eq 9, 3) := by decide +kernel
theorem dX5_offer_9 : decode cX5_offer 9 = .ok (.aload_n 0, 1) := by decide +kernel
theorem dX5_offer_10 : decode cX5_offer 10 = .ok (.iconst 1, 1) := by decide +kernel
theorem dX5_offer_11 : decode cX5_offer 11 = .ok (.invokevirtual 72, 3) := by decide +kernel
theorem dX5_offer_14 : decode cX5_offer 14 = .ok (.ireturn, 1) := by decide +kernel
theorem dX5_offer_15 : decode cX5_offer 15 = .ok (.aload_n 0, 1) := by decide +kernel
theorem dX5_offer_16 : decode cX5_offer 16 = .ok (.iconst 3, 1) := by decide +kernel
theorem dX5_offer_17 : decode cX5_offer 17 = .ok (.iload_n 1, 1) := by decide +kernel
theorem dX5_offer_18 : decode cX5_offer 18 = .ok (.invokevirtual 50, 3) := by decide +kernel
theorem dX5_offer_21 : decode cX5_offer 21 = .ok (.istore_n 2, 1) := by decide +kernel
theorem dX5_offer_22 : decode cX5_offer 22 = .ok (.aload_n 0, 1) := by decide +kernel
theorem dX5_offer_23 : decode cX5_offer 23 = .ok (.iconst 3, 1) := by decide +kernel
theorem dX5_offer_24 : decode cX5_offer 24 = .ok (.iload_n 1, 1) := by decide +kernel
theorem dX5_offer_25 : decode cX5_offer 25 = .ok (.iload_n 2, 1) := by decide +kernel
theorem dX5_offer_26 : decode cX5_offer 26 = .ok (.iconst (-1), 1) := by decide +kernel
theorem dX5_offer_27 : decode cX5_offer 27 = .ok (.if_icmp .ne 7, 3) := by decide +kernel
theorem dX5_offer_30 : decode cX5_offer 30 = .ok (.iconst 1, 1) := by decide +kernel
theorem dX5_offer_31 : decode cX5_offer 31 = .ok (.goto 15, 3) := by decide +kernel
theorem dX5_offer_34 : decode cX5_offer 34 = .ok (.aload_n 0, 1) := by decide +kernel
theorem dX5_offer_35 : decode cX5_offer 35 = .ok (.getfield 13, 3) := by decide +kernel
theorem dX5_offer_38 : decode cX5_offer 38 = .ok (.sipush 603, 3) := by decide +kernel
theorem dX5_offer_41 : decode cX5_offer 41 = .ok (.iload_n 2, 1) := by decide +kernel
theorem dX5_offer_42 : decode cX5_offer 42 = .ok (.iadd, 1) := by decide +kernel
theorem dX5_offer_43 : decode cX5_offer 43 = .ok (.iaload, 1) := by decide +kernel
theorem dX5_offer_44 : decode cX5_offer 44 = .ok (.iconst 1, 1) := by decide +kernel
theorem dX5_offer_45 : decode cX5_offer 45 = .ok (.iadd, 1) := by decide +kernel
theorem dX5_offer_46 : decode cX5_offer 46 = .ok (.invokevirtual 79, 3) := by decide +kernel
theorem dX5_offer_49 : decode cX5_offer 49 = .ok (.aload_n 0, 1) := by decide +kernel
theorem dX5_offer_50 : decode cX5_offer 50 = .ok (.iconst 3, 1) := by decide +kernel
theorem dX5_offer_51 : decode cX5_offer 51 = .ok (.iconst (-1), 1) := by decide +kernel
theorem dX5_offer_52 : decode cX5_offer 52 = .ok (.invokevirtual 62, 3) := by decide +kernel
theorem dX5_offer_55 : decode cX5_offer 55 = .ok (.aload_n 0, 1) := by decide +kernel
theorem dX5_offer_56 : decode cX5_offer 56 = .ok (.iload_n 2, 1) := by decide +kernel
theorem dX5_offer_57 : decode cX5_offer 57 = .ok (.iconst (-1), 1) := by decide +kernel
theorem dX5_offer_58 : decode cX5_offer 58 = .ok (.if_icmp .ne 7, 3) := by decide +kernel
theorem dX5_offer_61 : decode cX5_offer 61 = .ok (.iconst 1, 1) := by decide +kernel
theorem dX5_offer_62 : decode cX5_offer 62 = .ok (.goto 4, 3) := by decide +kernel
theorem dX5_offer_65 : decode cX5_offer 65 = .ok (.iconst 0, 1) := by decide +kernel
theorem dX5_offer_66 : decode cX5_offer 66 = .ok (.invokevirtual 82, 3) := by decide +kernel
theorem dX5_offer_69 : decode cX5_offer 69 = .ok (.ireturn, 1) := by decide +kernel
theorem dX5_poll_0 : decode cX5_poll 0 = .ok (.aload_n 0, 1) := by decide +kernel
theorem dX5_poll_1 : decode cX5_poll 1 = .ok (.getfield 16, 3) := by decide +kernel
theorem dX5_poll_4 : decode cX5_poll 4 = .ok (.iconst 3, 1) := by decide +kernel
theorem dX5_poll_5 : decode cX5_poll 5 = .ok (.iaload, 1) := by decide +kernel
theorem dX5_poll_6 : decode cX5_poll 6 = .ok (.ifCond .ne 9, 3) := by decide +kernel
theorem dX5_poll_9 : decode cX5_poll 9 = .ok (.aload_n 0, 1) := by decide +kernel
theorem dX5_poll_10 : decode cX5_poll 10 = .ok (.iconst 1, 1) := by decide +kernel
theorem dX5_poll_11 : decode cX5_poll 11 = .ok (.invokevirtual 58, 3) := by decide +kernel
theorem dX5_poll_14 : decode cX5_poll 14 = .ok (.ireturn, 1) := by decide +kernel
theorem dX5_poll_15 : decode cX5_poll 15 = .ok (.aload_n 0, 1) := by decide +kernel
theorem dX5_poll_16 : decode cX5_poll 16 = .ok (.getfield 7, 3) := by decide +kernel
theorem dX5_poll_19 : decode cX5_poll 19 = .ok (.sipush 603, 3) := by decide +kernel
theorem dX5_poll_22 : decode cX5_poll 22 = .ok (.iaload, 1) := by decide +kernel
theorem dX5_poll_23 : decode cX5_poll 23 = .ok (.istore_n 1, 1) := by decide +kernel
theorem dX5_poll_24 : decode cX5_poll 24 = .ok (.aload_n 0, 1) := by decide +kernel
theorem dX5_poll_25 : decode cX5_poll 25 = .ok (.iconst 3, 1) := by decide +kernel
theorem dX5_poll_26 : decode cX5_poll 26 = .ok (.iconst 0, 1) := by decide +kernel
theorem dX5_poll_27 : decode cX5_poll 27 = .ok (.invokevirtual 46, 3) := by decide +kernel
theorem dX5_poll_30 : decode cX5_poll 30 = .ok (.aload_n 0, 1) := by decide +kernel
theorem dX5_poll_31 : decode cX5_poll 31 = .ok (.iconst 3, 1) := by decide +kernel
theorem dX5_poll_32 : decode cX5_poll 32 = .ok (.iconst (-1), 1) := by decide +kernel
theorem dX5_poll_33 : decode cX5_poll 33 = .ok (.invokevirtual 62, 3) := by decide +kernel
theorem dX5_poll_36 : decode cX5_poll 36 = .ok (.aload_n 0, 1) := by decide +kernel
theorem dX5_poll_37 : decode cX5_poll 37 = .ok (.iload_n 1, 1) := by decide +kernel
theorem dX5_poll_38 : decode cX5_poll 38 = .ok (.invokevirtual 65, 3) := by decide +kernel
theorem dX5_poll_41 : decode cX5_poll 41 = .ok (.ireturn, 1) := by decide +kernel
theorem dX5_toEnd_0 : decode cX5_toEnd 0 = .ok (.aload_n 0, 1) := by decide +kernel
theorem dX5_toEnd_1 : decode cX5_toEnd 1 = .ok (.iconst 3, 1) := by decide +kernel
theorem dX5_toEnd_2 : decode cX5_toEnd 2 = .ok (.iload_n 1, 1) := by decide +kernel
theorem dX5_toEnd_3 : decode cX5_toEnd 3 = .ok (.invokevirtual 50, 3) := by decide +kernel
theorem dX5_toEnd_6 : decode cX5_toEnd 6 = .ok (.istore_n 2, 1) := by decide +kernel
theorem dX5_toEnd_7 : decode cX5_toEnd 7 = .ok (.iload_n 2, 1) := by decide +kernel
theorem dX5_toEnd_8 : decode cX5_toEnd 8 = .ok (.iconst (-1), 1) := by decide +kernel
theorem dX5_toEnd_9 : decode cX5_toEnd 9 = .ok (.if_icmp .ne 9, 3) := by decide +kernel
theorem dX5_toEnd_12 : decode cX5_toEnd 12 = .ok (.aload_n 0, 1) := by decide +kernel
theorem dX5_toEnd_13 : decode cX5_toEnd 13 = .ok (.iconst 1, 1) := by decide +kernel
theorem dX5_toEnd_14 : decode cX5_toEnd 14 = .ok (.invokevirtual 58, 3) := by decide +kernel
theorem dX5_toEnd_17 : decode cX5_toEnd 17 = .ok (.ireturn, 1) := by decide +kernel
theorem dX5_toEnd_18 : decode cX5_toEnd 18 = .ok (.aload_n 0, 1) := by decide +kernel
theorem dX5_toEnd_19 : decode cX5_toEnd 19 = .ok (.getfield 13, 3) := by decide +kernel
theorem dX5_toEnd_22 : decode cX5_toEnd 22 = .ok (.sipush 603, 3) := by decide +kernel
theorem dX5_toEnd_25 : decode cX5_toEnd 25 = .ok (.iload_n 2, 1) := by decide +kernel
theorem dX5_toEnd_26 : decode cX5_toEnd 26 = .ok (.iadd, 1) := by decide +kernel
theorem dX5_toEnd_27 : decode cX5_toEnd 27 = .ok (.iaload, 1) := by decide +kernel
theorem dX5_toEnd_28 : decode cX5_toEnd 28 = .ok (.istore_n 3, 1) := by decide +kernel
theorem dX5_toEnd_29 : decode cX5_toEnd 29 = .ok (.aload_n 0, 1) := by decide +kernel
theorem dX5_toEnd_30 : decode cX5_toEnd 30 = .ok (.iconst 3, 1) := by decide +kernel
theorem dX5_toEnd_31 : decode cX5_toEnd 31 = .ok (.iload_n 2, 1) := by decide +kernel
theorem dX5_toEnd_32 : decode cX5_toEnd 32 = .ok (.invokevirtual 46, 3) := by decide +kernel
theorem dX5_toEnd_35 : decode cX5_toEnd 35 = .ok (.aload_n 0, 1) := by decide +kernel
theorem dX5_toEnd_36 : decode cX5_toEnd 36 = .ok (.iconst 3, 1) := by decide +kernel
theorem dX5_toEnd_37 : decode cX5_toEnd 37 = .ok (.iload_n 1, 1) := by decide +kernel
theorem dX5_toEnd_38 : decode cX5_toEnd 38 = .ok (.iload_n 3, 1) := by decide +kernel
theorem dX5_toEnd_39 : decode cX5_toEnd 39 = .ok (.invokevirtual 54, 3) := by decide +kernel
theorem dX5_toEnd_42 : decode cX5_toEnd 42 = .ok (.aload_n 0, 1) := by decide +kernel
theorem dX5_toEnd_43 : decode cX5_toEnd 43 = .ok (.iconst 3, 1) := by decide +kernel
theorem dX5_toEnd_44 : decode cX5_toEnd 44 = .ok (.iconst (-1), 1) := by decide +kernel
theorem dX5_toEnd_45 : decode cX5_toEnd 45 = .ok (.invokevirtual 62, 3) := by decide +kernel
theorem dX5_toEnd_48 : decode cX5_toEnd 48 = .ok (.aload_n 0, 1) := by decide +kernel
theorem dX5_toEnd_49 : decode cX5_toEnd 49 = .ok (.iload_n 2, 1) := by decide +kernel
theorem dX5_toEnd_50 : decode cX5_toEnd 50 = .ok (.invokevirtual 65, 3) := by decide +kernel
theorem dX5_toEnd_53 : decode cX5_toEnd 53 = .ok (.ireturn, 1) := by decide +kernel
theorem dX5_isCursor_0 : decode cX5_isCursor 0 = .ok (.iload_n 0, 1) := by decide +kernel
theorem dX5_isCursor_1 : decode cX5_isCursor 1 = .ok (.iconst 0, 1) := by decide +kernel
theorem dX5_isCursor_2 : decode cX5_isCursor 2 = .ok (.iconst 2, 1) := by decide +kernel
theorem dX5_isCursor_3 : decode cX5_isCursor 3 = .ok (.invokestatic 42, 3) := by decide +kernel
theorem dX5_isCursor_6 : decode cX5_isCursor 6 = .ok (.ireturn, 1) := by decide +kernel
theorem dX5_isOpen_0 : decode cX5_isOpen 0 = .ok (.aload_n 0, 1) := by decide +kernel
theorem dX5_isOpen_1 : decode cX5_isOpen 1 = .ok (.getfield 23, 3) := by decide +kernel
theorem dX5_isOpen_4 : decode cX5_isOpen 4 = .ok (.iload_n 1, 1) := by decide +kernel
theorem dX5_isOpen_5 : decode cX5_isOpen 5 = .ok (.iaload, 1) := by decide +kernel
theorem dX5_isOpen_6 : decode cX5_isOpen 6 = .ok (.iconst (-1), 1) := by decide +kernel
theorem dX5_isOpen_7 : decode cX5_isOpen 7 = .ok (.if_icmp .eq 7, 3) := by decide +kernel
theorem dX5_isOpen_10 : decode cX5_isOpen 10 = .ok (.iconst 1, 1) := by decide +kernel
theorem dX5_isOpen_11 : decode cX5_isOpen 11 = .ok (.goto 4, 3) := by decide +kernel
theorem dX5_isOpen_14 : decode cX5_isOpen 14 = .ok (.iconst 0, 1) := by decide +kernel
theorem dX5_isOpen_15 : decode cX5_isOpen 15 = .ok (.ireturn, 1) := by decide +kernel
theorem dX5_open_0 : decode cX5_open 0 = .ok (.iload_n 1, 1) := by decide +kernel
theorem dX5_open_1 : decode cX5_open 1 = .ok (.invokestatic 92, 3) := by decide +kernel
theorem dX5_open_4 : decode cX5_open 4 = .ok (.ifCond .eq 10, 3) := by decide +kernel
theorem dX5_open_7 : decode cX5_open 7 = .ok (.iload_n 2, 1) := by decide +kernel
theorem dX5_open_8 : decode cX5_open 8 = .ok (.invokestatic 68, 3) := by decide +kernel
theorem dX5_open_11 : decode cX5_open 11 = .ok (.ifCond .ne 9, 3) := by decide +kernel
theorem dX5_open_14 : decode cX5_open 14 = .ok (.aload_n 0, 1) := by decide +kernel
theorem dX5_open_15 : decode cX5_open 15 = .ok (.iconst 1, 1) := by decide +kernel
theorem dX5_open_16 : decode cX5_open 16 = .ok (.invokevirtual 58, 3) := by decide +kernel
theorem dX5_open_19 : decode cX5_open 19 = .ok (.ireturn, 1) := by decide +kernel
theorem dX5_open_20 : decode cX5_open 20 = .ok (.iload_n 3, 1) := by decide +kernel
theorem dX5_open_21 : decode cX5_open 21 = .ok (.iconst 0, 1) := by decide +kernel
theorem dX5_open_22 : decode cX5_open 22 = .ok (.iconst 2, 1) := by decide +kernel
theorem dX5_open_23 : decode cX5_open 23 = .ok (.invokestatic 42, 3) := by decide +kernel
theorem dX5_open_26 : decode cX5_open 26 = .ok (.ifCond .ne 9, 3) := by decide +kernel
theorem dX5_open_29 : decode cX5_open 29 = .ok (.aload_n 0, 1) := by decide +kernel
theorem dX5_open_30 : decode cX5_open 30 = .ok (.iconst 2, 1) := by decide +kernel
theorem dX5_open_31 : decode cX5_open 31 = .ok (.invokevirtual 58, 3) := by decide +kernel
theorem dX5_open_34 : decode cX5_open 34 = .ok (.ireturn, 1) := by decide +kernel
theorem dX5_open_35 : decode cX5_open 35 = .ok (.aload_n 0, 1) := by decide +kernel
theorem dX5_open_36 : decode cX5_open 36 = .ok (.getfield 23, 3) := by decide +kernel
theorem dX5_open_39 : decode cX5_open 39 = .ok (.iload_n 1, 1) := by decide +kernel
theorem dX5_open_40 : decode cX5_open 40 = .ok (.iload_n 2, 1) := by decide +kernel
theorem dX5_open_41 : decode cX5_open 41 = .ok (.iastore, 1) := by decide +kernel
theorem dX5_open_42 : decode cX5_open 42 = .ok (.aload_n 0, 1) := by decide +kernel
theorem dX5_open_43 : decode cX5_open 43 = .ok (.getfield 26, 3) := by decide +kernel
theorem dX5_open_46 : decode cX5_open 46 = .ok (.iload_n 1, 1) := by decide +kernel
theorem dX5_open_47 : decode cX5_open 47 = .ok (.iload_n 3, 1) := by decide +kernel
theorem dX5_open_48 : decode cX5_open 48 = .ok (.iastore, 1) := by decide +kernel
theorem dX5_open_49 : decode cX5_open 49 = .ok (.aload_n 0, 1) := by decide +kernel
theorem dX5_open_50 : decode cX5_open 50 = .ok (.getfield 29, 3) := by decide +kernel
theorem dX5_open_53 : decode cX5_open 53 = .ok (.iload_n 1, 1) := by decide +kernel
theorem dX5_open_54 : decode cX5_open 54 = .ok (.iconst 0, 1) := by decide +kernel
theorem dX5_open_55 : decode cX5_open 55 = .ok (.iastore, 1) := by decide +kernel
theorem dX5_open_56 : decode cX5_open 56 = .ok (.aload_n 0, 1) := by decide +kernel
theorem dX5_open_57 : decode cX5_open 57 = .ok (.getfield 32, 3) := by decide +kernel
theorem dX5_open_60 : decode cX5_open 60 = .ok (.iload_n 1, 1) := by decide +kernel
theorem dX5_open_61 : decode cX5_open 61 = .ok (.iconst 0, 1) := by decide +kernel
theorem dX5_open_62 : decode cX5_open 62 = .ok (.bastore, 1) := by decide +kernel
theorem dX5_open_63 : decode cX5_open 63 = .ok (.aload_n 0, 1) := by decide +kernel
theorem dX5_open_64 : decode cX5_open 64 = .ok (.aload_n 0, 1) := by decide +kernel
theorem dX5_open_65 : decode cX5_open 65 = .ok (.getfield 16, 3) := by decide +kernel
theorem dX5_open_68 : decode cX5_open 68 = .ok (.iload_n 2, 1) := by decide +kernel
theorem dX5_open_69 : decode cX5_open 69 = .ok (.iaload, 1) := by decide +kernel
theorem dX5_open_70 : decode cX5_open 70 = .ok (.invokevirtual 65, 3) := by decide +kernel
theorem dX5_open_73 : decode cX5_open 73 = .ok (.ireturn, 1) := by decide +kernel
theorem dX5_hasNext_0 : decode cX5_hasNext 0 = .ok (.iload_n 1, 1) := by decide +kernel
theorem dX5_hasNext_1 : decode cX5_hasNext 1 = .ok (.invokestatic 92, 3) := by decide +kernel
theorem dX5_hasNext_4 : decode cX5_hasNext 4 = .ok (.ifCond .ne 9, 3) := by decide +kernel
theorem dX5_hasNext_7 : decode cX5_hasNext 7 = .ok (.aload_n 0, 1) := by decide +kernel
theorem dX5_hasNext_8 : decode cX5_hasNext 8 = .ok (.iconst 1, 1) := by decide +kernel
theorem dX5_hasNext_9 : decode cX5_hasNext 9 = .ok (.invokevirtual 72, 3) := by decide +kernel
theorem dX5_hasNext_12 : decode cX5_hasNext 12 = .ok (.ireturn, 1) := by decide +kernel
theorem dX5_hasNext_13 : decode cX5_hasNext 13 = .ok (.aload_n 0, 1) := by decide +kernel
theorem dX5_hasNext_14 : decode cX5_hasNext 14 = .ok (.iload_n 1, 1) := by decide +kernel
theorem dX5_hasNext_15 : decode cX5_hasNext 15 = .ok (.invokevirtual 95, 3) := by decide +kernel
theorem dX5_hasNext_18 : decode cX5_hasNext 18 = .ok (.ifCond .eq 35, 3) := by decide +kernel
theorem dX5_hasNext_21 : decode cX5_hasNext 21 = .ok (.aload_n 0, 1) := by decide +kernel
theorem dX5_hasNext_22 : decode cX5_hasNext 22 = .ok (.aload_n 0, 1) := by decide +kernel
theorem dX5_hasNext_23 : decode cX5_hasNext 23 = .ok (.getfield 29, 3) := by decide +kernel
theorem dX5_hasNext_26 : decode cX5_hasNext 26 = .ok (.iload_n 1, 1) := by decide +kernel
theorem dX5_hasNext_27 : decode cX5_hasNext 27 = .ok (.iaload, 1) := by decide +kernel
theorem dX5_hasNext_28 : decode cX5_hasNext 28 = .ok (.aload_n 0, 1) := by decide +kernel
theorem dX5_hasNext_29 : decode cX5_hasNext 29 = .ok (.getfield 16, 3) := by decide +kernel
theorem dX5_hasNext_32 : decode cX5_hasNext 32 = .ok (.aload_n 0, 1) := by decide +kernel
theorem dX5_hasNext_33 : decode cX5_hasNext 33 = .ok (.getfield 23, 3) := by decide +kernel
theorem dX5_hasNext_36 : decode cX5_hasNext 36 = .ok (.iload_n 1, 1) := by decide +kernel
theorem dX5_hasNext_37 : decode cX5_hasNext 37 = .ok (.iaload, 1) := by decide +kernel
theorem dX5_hasNext_38 : decode cX5_hasNext 38 = .ok (.iaload, 1) := by decide +kernel
theorem dX5_hasNext_39 : decode cX5_hasNext 39 = .ok (.if_icmp .ge 7, 3) := by decide +kernel
theorem dX5_hasNext_42 : decode cX5_hasNext 42 = .ok (.iconst 1, 1) := by decide +kernel
theorem dX5_hasNext_43 : decode cX5_hasNext 43 = .ok (.goto 4, 3) := by decide +kernel
theorem dX5_hasNext_46 : decode cX5_hasNext 46 = .ok (.iconst 0, 1) := by decide +kernel
theorem dX5_hasNext_47 : decode cX5_hasNext 47 = .ok (.invokevirtual 82, 3) := by decide +kernel
theorem dX5_hasNext_50 : decode cX5_hasNext 50 = .ok (.goto 8, 3) := by decide +kernel
theorem dX5_hasNext_53 : decode cX5_hasNext 53 = .ok (.aload_n 0, 1) := by decide +kernel
theorem dX5_hasNext_54 : decode cX5_hasNext 54 = .ok (.iconst 2, 1) := by decide +kernel
theorem dX5_hasNext_55 : decode cX5_hasNext 55 = .ok (.invokevirtual 72, 3) := by decide +kernel
theorem dX5_hasNext_58 : decode cX5_hasNext 58 = .ok (.ireturn, 1) := by decide +kernel
theorem dX5_next_0 : decode cX5_next 0 = .ok (.iload_n 1, 1) := by decide +kernel
theorem dX5_next_1 : decode cX5_next 1 = .ok (.invokestatic 92, 3) := by decide +kernel
theorem dX5_next_4 : decode cX5_next 4 = .ok (.ifCond .ne 9, 3) := by decide +kernel
theorem dX5_next_7 : decode cX5_next 7 = .ok (.aload_n 0, 1) := by decide +kernel
theorem dX5_next_8 : decode cX5_next 8 = .ok (.iconst 1, 1) := by decide +kernel
theorem dX5_next_9 : decode cX5_next 9 = .ok (.invokevirtual 58, 3) := by decide +kernel
theorem dX5_next_12 : decode cX5_next 12 = .ok (.ireturn, 1) := by decide +kernel
theorem dX5_next_13 : decode cX5_next 13 = .ok (.aload_n 0, 1) := by decide +kernel
theorem dX5_next_14 : decode cX5_next 14 = .ok (.iload_n 1, 1) := by decide +kernel
theorem dX5_next_15 : decode cX5_next 15 = .ok (.invokevirtual 95, 3) := by decide +kernel
theorem dX5_next_18 : decode cX5_next 18 = .ok (.ifCond .ne 9, 3) := by decide +kernel
theorem dX5_next_21 : decode cX5_next 21 = .ok (.aload_n 0, 1) := by decide +kernel
theorem dX5_next_22 : decode cX5_next 22 = .ok (.iconst 2, 1) := by decide +kernel
theorem dX5_next_23 : decode cX5_next 23 = .ok (.invokevirtual 58, 3) := by decide +kernel
theorem dX5_next_26 : decode cX5_next 26 = .ok (.ireturn, 1) := by decide +kernel
theorem dX5_next_27 : decode cX5_next 27 = .ok (.aload_n 0, 1) := by decide +kernel
theorem dX5_next_28 : decode cX5_next 28 = .ok (.getfield 23, 3) := by decide +kernel
theorem dX5_next_31 : decode cX5_next 31 = .ok (.iload_n 1, 1) := by decide +kernel
theorem dX5_next_32 : decode cX5_next 32 = .ok (.iaload, 1) := by decide +kernel
theorem dX5_next_33 : decode cX5_next 33 = .ok (.istore_n 2, 1) := by decide +kernel
theorem dX5_next_34 : decode cX5_next 34 = .ok (.aload_n 0, 1) := by decide +kernel
theorem dX5_next_35 : decode cX5_next 35 = .ok (.getfield 29, 3) := by decide +kernel
theorem dX5_next_38 : decode cX5_next 38 = .ok (.iload_n 1, 1) := by decide +kernel
theorem dX5_next_39 : decode cX5_next 39 = .ok (.iaload, 1) := by decide +kernel
theorem dX5_next_40 : decode cX5_next 40 = .ok (.istore_n 3, 1) := by decide +kernel
theorem dX5_next_41 : decode cX5_next 41 = .ok (.iload_n 3, 1) := by decide +kernel
theorem dX5_next_42 : decode cX5_next 42 = .ok (.aload_n 0, 1) := by decide +kernel
theorem dX5_next_43 : decode cX5_next 43 = .ok (.getfield 16, 3) := by decide +kernel
theorem dX5_next_46 : decode cX5_next 46 = .ok (.iload_n 2, 1) := by decide +kernel
theorem dX5_next_47 : decode cX5_next 47 = .ok (.iaload, 1) := by decide +kernel
theorem dX5_next_48 : decode cX5_next 48 = .ok (.if_icmp .ne 9, 3) := by decide +kernel
theorem dX5_next_51 : decode cX5_next 51 = .ok (.aload_n 0, 1) := by decide +kernel
theorem dX5_next_52 : decode cX5_next 52 = .ok (.iconst 3, 1) := by decide +kernel
theorem dX5_next_53 : decode cX5_next 53 = .ok (.invokevirtual 58, 3) := by decide +kernel
theorem dX5_next_56 : decode cX5_next 56 = .ok (.ireturn, 1) := by decide +kernel
theorem dX5_next_57 : decode cX5_next 57 = .ok (.aload_n 0, 1) := by decide +kernel
theorem dX5_next_58 : decode cX5_next 58 = .ok (.getfield 29, 3) := by decide +kernel
theorem dX5_next_61 : decode cX5_next 61 = .ok (.iload_n 1, 1) := by decide +kernel
theorem dX5_next_62 : decode cX5_next 62 = .ok (.dup2, 1) := by decide +kernel
theorem dX5_next_63 : decode cX5_next 63 = .ok (.iaload, 1) := by decide +kernel
theorem dX5_next_64 : decode cX5_next 64 = .ok (.iconst 1, 1) := by decide +kernel
theorem dX5_next_65 : decode cX5_next 65 = .ok (.iadd, 1) := by decide +kernel
theorem dX5_next_66 : decode cX5_next 66 = .ok (.iastore, 1) := by decide +kernel
theorem dX5_next_67 : decode cX5_next 67 = .ok (.aload_n 0, 1) := by decide +kernel
theorem dX5_next_68 : decode cX5_next 68 = .ok (.getfield 32, 3) := by decide +kernel
theorem dX5_next_71 : decode cX5_next 71 = .ok (.iload_n 1, 1) := by decide +kernel
theorem dX5_next_72 : decode cX5_next 72 = .ok (.iconst 1, 1) := by decide +kernel
theorem dX5_next_73 : decode cX5_next 73 = .ok (.bastore, 1) := by decide +kernel
theorem dX5_next_74 : decode cX5_next 74 = .ok (.aload_n 0, 1) := by decide +kernel
theorem dX5_next_75 : decode cX5_next 75 = .ok (.aload_n 0, 1) := by decide +kernel
theorem dX5_next_76 : decode cX5_next 76 = .ok (.getfield 26, 3) := by decide +kernel
theorem dX5_next_79 : decode cX5_next 79 = .ok (.iload_n 1, 1) := by decide +kernel
theorem dX5_next_80 : decode cX5_next 80 = .ok (.iaload, 1) := by decide +kernel
theorem dX5_next_81 : decode cX5_next 81 = .ok (.iconst 1, 1) := by decide +kernel
theorem dX5_next_82 : decode cX5_next 82 = .ok (.if_icmp .ne 18, 3) := by decide +kernel
theorem dX5_next_85 : decode cX5_next 85 = .ok (.aload_n 0, 1) := by decide +kernel
theorem dX5_next_86 : decode cX5_next 86 = .ok (.getfield 13, 3) := by decide +kernel
theorem dX5_next_89 : decode cX5_next 89 = .ok (.sipush 201, 3) := by decide +kernel
theorem dX5_next_92 : decode cX5_next 92 = .ok (.iload_n 2, 1) := by decide +kernel
theorem dX5_next_93 : decode cX5_next 93 = .ok (.imul, 1) := by decide +kernel
theorem dX5_next_94 : decode cX5_next 94 = .ok (.iload_n 3, 1) := by decide +kernel
theorem dX5_next_95 : decode cX5_next 95 = .ok (.iadd, 1) := by decide +kernel
theorem dX5_next_96 : decode cX5_next 96 = .ok (.iaload, 1) := by decide +kernel
theorem dX5_next_97 : decode cX5_next 97 = .ok (.goto 15, 3) := by decide +kernel
theorem dX5_next_100 : decode cX5_next 100 = .ok (.aload_n 0, 1) := by decide +kernel
theorem dX5_next_101 : decode cX5_next 101 = .ok (.getfield 7, 3) := by decide +kernel
theorem dX5_next_104 : decode cX5_next 104 = .ok (.sipush 201, 3) := by decide +kernel
theorem dX5_next_107 : decode cX5_next 107 = .ok (.iload_n 2, 1) := by decide +kernel
theorem dX5_next_108 : decode cX5_next 108 = .ok (.imul, 1) := by decide +kernel
theorem dX5_next_109 : decode cX5_next 109 = .ok (.iload_n 3, 1) := by decide +kernel
theorem dX5_next_110 : decode cX5_next 110 = .ok (.iadd, 1) := by decide +kernel
theorem dX5_next_111 : decode cX5_next 111 = .ok (.iaload, 1) := by decide +kernel
theorem dX5_next_112 : decode cX5_next 112 = .ok (.invokevirtual 65, 3) := by decide +kernel
theorem dX5_next_115 : decode cX5_next 115 = .ok (.ireturn, 1) := by decide +kernel
theorem dX5_canChange_0 : decode cX5_canChange 0 = .ok (.aload_n 0, 1) := by decide +kernel
theorem dX5_canChange_1 : decode cX5_canChange 1 = .ok (.iload_n 1, 1) := by decide +kernel
theorem dX5_canChange_2 : decode cX5_canChange 2 = .ok (.invokevirtual 95, 3) := by decide +kernel
theorem dX5_canChange_5 : decode cX5_canChange 5 = .ok (.ifCond .eq 26, 3) := by decide +kernel
theorem dX5_canChange_8 : decode cX5_canChange 8 = .ok (.aload_n 0, 1) := by decide +kernel
theorem dX5_canChange_9 : decode cX5_canChange 9 = .ok (.getfield 23, 3) := by decide +kernel
theorem dX5_canChange_12 : decode cX5_canChange 12 = .ok (.iload_n 1, 1) := by decide +kernel
end
section
theorem dX5_canChange_13 : decode cX5_canChange 13 = .ok (.iaload, 1) := by decide +kernel
theorem dX5_canChange_14 : decode cX5_canChange 14 = .ok (.iconst 3, 1) := by decide +kernel
theorem dX5_canChange_15 : decode cX5_canChange 15 = .ok (.if_icmp .eq 16, 3) := by decide +kernel
theorem dX5_canChange_18 : decode cX5_canChange 18 = .ok (.aload_n 0, 1) := by decide +kernel
theorem dX5_canChange_19 : decode cX5_canChange 19 = .ok (.getfield 32, 3) := by decide +kernel
theorem dX5_canChange_22 : decode cX5_canChange 22 = .ok (.iload_n 1, 1) := by decide +kernel
theorem dX5_canChange_23 : decode cX5_canChange 23 = .ok (.baload, 1) := by decide +kernel
theorem dX5_canChange_24 : decode cX5_canChange 24 = .ok (.ifCond .eq 7, 3) := by decide +kernel
theorem dX5_canChange_27 : decode cX5_canChange 27 = .ok (.iconst 1, 1) := by decide +kernel
theorem dX5_canChange_28 : decode cX5_canChange 28 = .ok (.goto 4, 3) := by decide +kernel
theorem dX5_canChange_31 : decode cX5_canChange 31 = .ok (.iconst 0, 1) := by decide +kernel
theorem dX5_canChange_32 : decode cX5_canChange 32 = .ok (.ireturn, 1) := by decide +kernel
theorem dX5_removeAt_0 : decode cX5_removeAt 0 = .ok (.iload_n 1, 1) := by decide +kernel
theorem dX5_removeAt_1 : decode cX5_removeAt 1 = .ok (.invokestatic 92, 3) := by decide +kernel
theorem dX5_removeAt_4 : decode cX5_removeAt 4 = .ok (.ifCond .ne 9, 3) := by decide +kernel
theorem dX5_removeAt_7 : decode cX5_removeAt 7 = .ok (.aload_n 0, 1) := by decide +kernel
theorem dX5_removeAt_8 : decode cX5_removeAt 8 = .ok (.iconst 1, 1) := by decide +kernel
theorem dX5_removeAt_9 : decode cX5_removeAt 9 = .ok (.invokevirtual 58, 3) := by decide +kernel
theorem dX5_removeAt_12 : decode cX5_removeAt 12 = .ok (.ireturn, 1) := by decide +kernel
theorem dX5_removeAt_13 : decode cX5_removeAt 13 = .ok (.aload_n 0, 1) := by decide +kernel
theorem dX5_removeAt_14 : decode cX5_removeAt 14 = .ok (.iload_n 1, 1) := by decide +kernel
theorem dX5_removeAt_15 : decode cX5_removeAt 15 = .ok (.invokevirtual 98, 3) := by decide +kernel
theorem dX5_removeAt_18 : decode cX5_removeAt 18 = .ok (.ifCond .ne 9, 3) := by decide +kernel
theorem dX5_removeAt_21 : decode cX5_removeAt 21 = .ok (.aload_n 0, 1) := by decide +kernel
theorem dX5_removeAt_22 : decode cX5_removeAt 22 = .ok (.iconst 2, 1) := by decide +kernel
theorem dX5_removeAt_23 : decode cX5_removeAt 23 = .ok (.invokevirtual 58, 3) := by decide +kernel
theorem dX5_removeAt_26 : decode cX5_removeAt 26 = .ok (.ireturn, 1) := by decide +kernel
theorem dX5_removeAt_27 : decode cX5_removeAt 27 = .ok (.aload_n 0, 1) := by decide +kernel
theorem dX5_removeAt_28 : decode cX5_removeAt 28 = .ok (.getfield 23, 3) := by decide +kernel
theorem dX5_removeAt_31 : decode cX5_removeAt 31 = .ok (.iload_n 1, 1) := by decide +kernel
theorem dX5_removeAt_32 : decode cX5_removeAt 32 = .ok (.iaload, 1) := by decide +kernel
theorem dX5_removeAt_33 : decode cX5_removeAt 33 = .ok (.istore_n 2, 1) := by decide +kernel
theorem dX5_removeAt_34 : decode cX5_removeAt 34 = .ok (.aload_n 0, 1) := by decide +kernel
theorem dX5_removeAt_35 : decode cX5_removeAt 35 = .ok (.getfield 29, 3) := by decide +kernel
theorem dX5_removeAt_38 : decode cX5_removeAt 38 = .ok (.iload_n 1, 1) := by decide +kernel
theorem dX5_removeAt_39 : decode cX5_removeAt 39 = .ok (.dup2, 1) := by decide +kernel
theorem dX5_removeAt_40 : decode cX5_removeAt 40 = .ok (.iaload, 1) := by decide +kernel
theorem dX5_removeAt_41 : decode cX5_removeAt 41 = .ok (.iconst 1, 1) := by decide +kernel
theorem dX5_removeAt_42 : decode cX5_removeAt 42 = .ok (.isub, 1) := by decide +kernel
theorem dX5_removeAt_43 : decode cX5_removeAt 43 = .ok (.iastore, 1) := by decide +kernel
theorem dX5_removeAt_44 : decode cX5_removeAt 44 = .ok (.aload_n 0, 1) := by decide +kernel
theorem dX5_removeAt_45 : decode cX5_removeAt 45 = .ok (.getfield 32, 3) := by decide +kernel
theorem dX5_removeAt_48 : decode cX5_removeAt 48 = .ok (.iload_n 1, 1) := by decide +kernel
theorem dX5_removeAt_49 : decode cX5_removeAt 49 = .ok (.iconst 0, 1) := by decide +kernel
theorem dX5_removeAt_50 : decode cX5_removeAt 50 = .ok (.bastore, 1) := by decide +kernel
theorem dX5_removeAt_51 : decode cX5_removeAt 51 = .ok (.aload_n 0, 1) := by decide +kernel
theorem dX5_removeAt_52 : decode cX5_removeAt 52 = .ok (.iload_n 2, 1) := by decide +kernel
theorem dX5_removeAt_53 : decode cX5_removeAt 53 = .ok (.aload_n 0, 1) := by decide +kernel
theorem dX5_removeAt_54 : decode cX5_removeAt 54 = .ok (.getfield 29, 3) := by decide +kernel
theorem dX5_removeAt_57 : decode cX5_removeAt 57 = .ok (.iload_n 1, 1) := by decide +kernel
theorem dX5_removeAt_58 : decode cX5_removeAt 58 = .ok (.iaload, 1) := by decide +kernel
theorem dX5_removeAt_59 : decode cX5_removeAt 59 = .ok (.invokevirtual 46, 3) := by decide +kernel
theorem dX5_removeAt_62 : decode cX5_removeAt 62 = .ok (.aload_n 0, 1) := by decide +kernel
theorem dX5_removeAt_63 : decode cX5_removeAt 63 = .ok (.iload_n 2, 1) := by decide +kernel
theorem dX5_removeAt_64 : decode cX5_removeAt 64 = .ok (.iload_n 1, 1) := by decide +kernel
theorem dX5_removeAt_65 : decode cX5_removeAt 65 = .ok (.invokevirtual 62, 3) := by decide +kernel
theorem dX5_removeAt_68 : decode cX5_removeAt 68 = .ok (.aload_n 0, 1) := by decide +kernel
theorem dX5_removeAt_69 : decode cX5_removeAt 69 = .ok (.aload_n 0, 1) := by decide +kernel
theorem dX5_removeAt_70 : decode cX5_removeAt 70 = .ok (.getfield 16, 3) := by decide +kernel
theorem dX5_removeAt_73 : decode cX5_removeAt 73 = .ok (.iload_n 2, 1) := by decide +kernel
theorem dX5_removeAt_74 : decode cX5_removeAt 74 = .ok (.iaload, 1) := by decide +kernel
theorem dX5_removeAt_75 : decode cX5_removeAt 75 = .ok (.invokevirtual 65, 3) := by decide +kernel
theorem dX5_removeAt_78 : decode cX5_removeAt 78 = .ok (.ireturn, 1) := by decide +kernel
theorem dX5_setAt_0 : decode cX5_setAt 0 = .ok (.iload_n 1, 1) := by decide +kernel
theorem dX5_setAt_1 : decode cX5_setAt 1 = .ok (.invokestatic 92, 3) := by decide +kernel
theorem dX5_setAt_4 : decode cX5_setAt 4 = .ok (.ifCond .ne 9, 3) := by decide +kernel
theorem dX5_setAt_7 : decode cX5_setAt 7 = .ok (.aload_n 0, 1) := by decide +kernel
theorem dX5_setAt_8 : decode cX5_setAt 8 = .ok (.iconst 1, 1) := by decide +kernel
theorem dX5_setAt_9 : decode cX5_setAt 9 = .ok (.invokevirtual 58, 3) := by decide +kernel
theorem dX5_setAt_12 : decode cX5_setAt 12 = .ok (.ireturn, 1) := by decide +kernel
theorem dX5_setAt_13 : decode cX5_setAt 13 = .ok (.aload_n 0, 1) := by decide +kernel
theorem dX5_setAt_14 : decode cX5_setAt 14 = .ok (.iload_n 1, 1) := by decide +kernel
theorem dX5_setAt_15 : decode cX5_setAt 15 = .ok (.invokevirtual 95, 3) := by decide +kernel
theorem dX5_setAt_18 : decode cX5_setAt 18 = .ok (.ifCond .eq 19, 3) := by decide +kernel
theorem dX5_setAt_21 : decode cX5_setAt 21 = .ok (.aload_n 0, 1) := by decide +kernel
theorem dX5_setAt_22 : decode cX5_setAt 22 = .ok (.getfield 26, 3) := by decide +kernel
theorem dX5_setAt_25 : decode cX5_setAt 25 = .ok (.iload_n 1, 1) := by decide +kernel
theorem dX5_setAt_26 : decode cX5_setAt 26 = .ok (.iaload, 1) := by decide +kernel
theorem dX5_setAt_27 : decode cX5_setAt 27 = .ok (.iconst 2, 1) := by decide +kernel
theorem dX5_setAt_28 : decode cX5_setAt 28 = .ok (.if_icmp .eq 9, 3) := by decide +kernel
theorem dX5_setAt_31 : decode cX5_setAt 31 = .ok (.aload_n 0, 1) := by decide +kernel
theorem dX5_setAt_32 : decode cX5_setAt 32 = .ok (.iconst 2, 1) := by decide +kernel
theorem dX5_setAt_33 : decode cX5_setAt 33 = .ok (.invokevirtual 58, 3) := by decide +kernel
theorem dX5_setAt_36 : decode cX5_setAt 36 = .ok (.ireturn, 1) := by decide +kernel
theorem dX5_setAt_37 : decode cX5_setAt 37 = .ok (.aload_n 0, 1) := by decide +kernel
theorem dX5_setAt_38 : decode cX5_setAt 38 = .ok (.iload_n 1, 1) := by decide +kernel
theorem dX5_setAt_39 : decode cX5_setAt 39 = .ok (.invokevirtual 98, 3) := by decide +kernel
theorem dX5_setAt_42 : decode cX5_setAt 42 = .ok (.ifCond .ne 9, 3) := by decide +kernel
theorem dX5_setAt_45 : decode cX5_setAt 45 = .ok (.aload_n 0, 1) := by decide +kernel
theorem dX5_setAt_46 : decode cX5_setAt 46 = .ok (.iconst 3, 1) := by decide +kernel
theorem dX5_setAt_47 : decode cX5_setAt 47 = .ok (.invokevirtual 58, 3) := by decide +kernel
theorem dX5_setAt_50 : decode cX5_setAt 50 = .ok (.ireturn, 1) := by decide +kernel
theorem dX5_setAt_51 : decode cX5_setAt 51 = .ok (.aload_n 0, 1) := by decide +kernel
theorem dX5_setAt_52 : decode cX5_setAt 52 = .ok (.getfield 23, 3) := by decide +kernel
theorem dX5_setAt_55 : decode cX5_setAt 55 = .ok (.iload_n 1, 1) := by decide +kernel
theorem dX5_setAt_56 : decode cX5_setAt 56 = .ok (.iaload, 1) := by decide +kernel
theorem dX5_setAt_57 : decode cX5_setAt 57 = .ok (.istore_n 3, 1) := by decide +kernel
theorem dX5_setAt_58 : decode cX5_setAt 58 = .ok (.sipush 201, 3) := by decide +kernel
theorem dX5_setAt_61 : decode cX5_setAt 61 = .ok (.iload_n 3, 1) := by decide +kernel
theorem dX5_setAt_62 : decode cX5_setAt 62 = .ok (.imul, 1) := by decide +kernel
theorem dX5_setAt_63 : decode cX5_setAt 63 = .ok (.aload_n 0, 1) := by decide +kernel
theorem dX5_setAt_64 : decode cX5_setAt 64 = .ok (.getfield 29, 3) := by decide +kernel
theorem dX5_setAt_67 : decode cX5_setAt 67 = .ok (.iload_n 1, 1) := by decide +kernel
theorem dX5_setAt_68 : decode cX5_setAt 68 = .ok (.iaload, 1) := by decide +kernel
theorem dX5_setAt_69 : decode cX5_setAt 69 = .ok (.iadd, 1) := by decide +kernel
theorem dX5_setAt_70 : decode cX5_setAt 70 = .ok (.iconst 1, 1) := by decide +kernel
theorem dX5_setAt_71 : decode cX5_setAt 71 = .ok (.isub, 1) := by decide +kernel
theorem dX5_setAt_72 : decode cX5_setAt 72 = .ok (.istore 4, 2) := by decide +kernel
theorem dX5_setAt_74 : decode cX5_setAt 74 = .ok (.aload_n 0, 1) := by decide +kernel
theorem dX5_setAt_75 : decode cX5_setAt 75 = .ok (.getfield 13, 3) := by decide +kernel
theorem dX5_setAt_78 : decode cX5_setAt 78 = .ok (.iload 4, 2) := by decide +kernel
theorem dX5_setAt_80 : decode cX5_setAt 80 = .ok (.iaload, 1) := by decide +kernel
theorem dX5_setAt_81 : decode cX5_setAt 81 = .ok (.istore 5, 2) := by decide +kernel
theorem dX5_setAt_83 : decode cX5_setAt 83 = .ok (.aload_n 0, 1) := by decide +kernel
theorem dX5_setAt_84 : decode cX5_setAt 84 = .ok (.getfield 13, 3) := by decide +kernel
theorem dX5_setAt_87 : decode cX5_setAt 87 = .ok (.iload 4, 2) := by decide +kernel
theorem dX5_setAt_89 : decode cX5_setAt 89 = .ok (.iload_n 2, 1) := by decide +kernel
theorem dX5_setAt_90 : decode cX5_setAt 90 = .ok (.iastore, 1) := by decide +kernel
theorem dX5_setAt_91 : decode cX5_setAt 91 = .ok (.aload_n 0, 1) := by decide +kernel
theorem dX5_setAt_92 : decode cX5_setAt 92 = .ok (.iload_n 3, 1) := by decide +kernel
theorem dX5_setAt_93 : decode cX5_setAt 93 = .ok (.iload_n 1, 1) := by decide +kernel
theorem dX5_setAt_94 : decode cX5_setAt 94 = .ok (.invokevirtual 62, 3) := by decide +kernel
theorem dX5_setAt_97 : decode cX5_setAt 97 = .ok (.aload_n 0, 1) := by decide +kernel
theorem dX5_setAt_98 : decode cX5_setAt 98 = .ok (.iload 5, 2) := by decide +kernel
theorem dX5_setAt_100 : decode cX5_setAt 100 = .ok (.invokevirtual 65, 3) := by decide +kernel
theorem dX5_setAt_103 : decode cX5_setAt 103 = .ok (.ireturn, 1) := by decide +kernel
theorem dX5_bookOf_0 : decode cX5_bookOf 0 = .ok (.iload_n 1, 1) := by decide +kernel
theorem dX5_bookOf_1 : decode cX5_bookOf 1 = .ok (.invokestatic 92, 3) := by decide +kernel
theorem dX5_bookOf_4 : decode cX5_bookOf 4 = .ok (.ifCond .eq 16, 3) := by decide +kernel
theorem dX5_bookOf_7 : decode cX5_bookOf 7 = .ok (.aload_n 0, 1) := by decide +kernel
theorem dX5_bookOf_8 : decode cX5_bookOf 8 = .ok (.aload_n 0, 1) := by decide +kernel
theorem dX5_bookOf_9 : decode cX5_bookOf 9 = .ok (.getfield 23, 3) := by decide +kernel
theorem dX5_bookOf_12 : decode cX5_bookOf 12 = .ok (.iload_n 1, 1) := by decide +kernel
theorem dX5_bookOf_13 : decode cX5_bookOf 13 = .ok (.iaload, 1) := by decide +kernel
theorem dX5_bookOf_14 : decode cX5_bookOf 14 = .ok (.invokevirtual 65, 3) := by decide +kernel
theorem dX5_bookOf_17 : decode cX5_bookOf 17 = .ok (.goto 8, 3) := by decide +kernel
theorem dX5_bookOf_20 : decode cX5_bookOf 20 = .ok (.aload_n 0, 1) := by decide +kernel
theorem dX5_bookOf_21 : decode cX5_bookOf 21 = .ok (.iconst 1, 1) := by decide +kernel
theorem dX5_bookOf_22 : decode cX5_bookOf 22 = .ok (.invokevirtual 58, 3) := by decide +kernel
theorem dX5_bookOf_25 : decode cX5_bookOf 25 = .ok (.ireturn, 1) := by decide +kernel
theorem dX5_isPlace_0 : decode cX5_isPlace 0 = .ok (.iload_n 1, 1) := by decide +kernel
theorem dX5_isPlace_1 : decode cX5_isPlace 1 = .ok (.invokestatic 68, 3) := by decide +kernel
theorem dX5_isPlace_4 : decode cX5_isPlace 4 = .ok (.ifCond .eq 23, 3) := by decide +kernel
theorem dX5_isPlace_7 : decode cX5_isPlace 7 = .ok (.iload_n 2, 1) := by decide +kernel
theorem dX5_isPlace_8 : decode cX5_isPlace 8 = .ok (.iconst 0, 1) := by decide +kernel
theorem dX5_isPlace_9 : decode cX5_isPlace 9 = .ok (.aload_n 0, 1) := by decide +kernel
theorem dX5_isPlace_10 : decode cX5_isPlace 10 = .ok (.getfield 16, 3) := by decide +kernel
theorem dX5_isPlace_13 : decode cX5_isPlace 13 = .ok (.iload_n 1, 1) := by decide +kernel
theorem dX5_isPlace_14 : decode cX5_isPlace 14 = .ok (.iaload, 1) := by decide +kernel
theorem dX5_isPlace_15 : decode cX5_isPlace 15 = .ok (.iconst 1, 1) := by decide +kernel
theorem dX5_isPlace_16 : decode cX5_isPlace 16 = .ok (.isub, 1) := by decide +kernel
theorem dX5_isPlace_17 : decode cX5_isPlace 17 = .ok (.invokestatic 42, 3) := by decide +kernel
theorem dX5_isPlace_20 : decode cX5_isPlace 20 = .ok (.ifCond .eq 7, 3) := by decide +kernel
theorem dX5_isPlace_23 : decode cX5_isPlace 23 = .ok (.iconst 1, 1) := by decide +kernel
theorem dX5_isPlace_24 : decode cX5_isPlace 24 = .ok (.goto 4, 3) := by decide +kernel
theorem dX5_isPlace_27 : decode cX5_isPlace 27 = .ok (.iconst 0, 1) := by decide +kernel
theorem dX5_isPlace_28 : decode cX5_isPlace 28 = .ok (.ireturn, 1) := by decide +kernel
theorem dX5_size_0 : decode cX5_size 0 = .ok (.iload_n 1, 1) := by decide +kernel
theorem dX5_size_1 : decode cX5_size 1 = .ok (.invokestatic 68, 3) := by decide +kernel
theorem dX5_size_4 : decode cX5_size 4 = .ok (.ifCond .eq 16, 3) := by decide +kernel
theorem dX5_size_7 : decode cX5_size 7 = .ok (.aload_n 0, 1) := by decide +kernel
theorem dX5_size_8 : decode cX5_size 8 = .ok (.aload_n 0, 1) := by decide +kernel
theorem dX5_size_9 : decode cX5_size 9 = .ok (.getfield 16, 3) := by decide +kernel
theorem dX5_size_12 : decode cX5_size 12 = .ok (.iload_n 1, 1) := by decide +kernel
theorem dX5_size_13 : decode cX5_size 13 = .ok (.iaload, 1) := by decide +kernel
theorem dX5_size_14 : decode cX5_size 14 = .ok (.invokevirtual 65, 3) := by decide +kernel
theorem dX5_size_17 : decode cX5_size 17 = .ok (.goto 8, 3) := by decide +kernel
theorem dX5_size_20 : decode cX5_size 20 = .ok (.aload_n 0, 1) := by decide +kernel
theorem dX5_size_21 : decode cX5_size 21 = .ok (.iconst 1, 1) := by decide +kernel
theorem dX5_size_22 : decode cX5_size 22 = .ok (.invokevirtual 58, 3) := by decide +kernel
theorem dX5_size_25 : decode cX5_size 25 = .ok (.ireturn, 1) := by decide +kernel
theorem dX5_hasKey_0 : decode cX5_hasKey 0 = .ok (.iload_n 1, 1) := by decide +kernel
theorem dX5_hasKey_1 : decode cX5_hasKey 1 = .ok (.invokestatic 68, 3) := by decide +kernel
theorem dX5_hasKey_4 : decode cX5_hasKey 4 = .ok (.ifCond .eq 25, 3) := by decide +kernel
theorem dX5_hasKey_7 : decode cX5_hasKey 7 = .ok (.aload_n 0, 1) := by decide +kernel
theorem dX5_hasKey_8 : decode cX5_hasKey 8 = .ok (.aload_n 0, 1) := by decide +kernel
theorem dX5_hasKey_9 : decode cX5_hasKey 9 = .ok (.iload_n 1, 1) := by decide +kernel
theorem dX5_hasKey_10 : decode cX5_hasKey 10 = .ok (.iload_n 2, 1) := by decide +kernel
theorem dX5_hasKey_11 : decode cX5_hasKey 11 = .ok (.invokevirtual 50, 3) := by decide +kernel
theorem dX5_hasKey_14 : decode cX5_hasKey 14 = .ok (.iconst (-1), 1) := by decide +kernel
theorem dX5_hasKey_15 : decode cX5_hasKey 15 = .ok (.if_icmp .eq 7, 3) := by decide +kernel
theorem dX5_hasKey_18 : decode cX5_hasKey 18 = .ok (.iconst 1, 1) := by decide +kernel
theorem dX5_hasKey_19 : decode cX5_hasKey 19 = .ok (.goto 4, 3) := by decide +kernel
theorem dX5_hasKey_22 : decode cX5_hasKey 22 = .ok (.iconst 0, 1) := by decide +kernel
theorem dX5_hasKey_23 : decode cX5_hasKey 23 = .ok (.invokevirtual 82, 3) := by decide +kernel
theorem dX5_hasKey_26 : decode cX5_hasKey 26 = .ok (.goto 8, 3) := by decide +kernel
theorem dX5_hasKey_29 : decode cX5_hasKey 29 = .ok (.aload_n 0, 1) := by decide +kernel
theorem dX5_hasKey_30 : decode cX5_hasKey 30 = .ok (.iconst 1, 1) := by decide +kernel
theorem dX5_hasKey_31 : decode cX5_hasKey 31 = .ok (.invokevirtual 72, 3) := by decide +kernel
theorem dX5_hasKey_34 : decode cX5_hasKey 34 = .ok (.ireturn, 1) := by decide +kernel
theorem dX5_hasValue_0 : decode cX5_hasValue 0 = .ok (.iload_n 1, 1) := by decide +kernel
theorem dX5_hasValue_1 : decode cX5_hasValue 1 = .ok (.invokestatic 68, 3) := by decide +kernel
theorem dX5_hasValue_4 : decode cX5_hasValue 4 = .ok (.ifCond .ne 9, 3) := by decide +kernel
theorem dX5_hasValue_7 : decode cX5_hasValue 7 = .ok (.aload_n 0, 1) := by decide +kernel
theorem dX5_hasValue_8 : decode cX5_hasValue 8 = .ok (.iconst 1, 1) := by decide +kernel
theorem dX5_hasValue_9 : decode cX5_hasValue 9 = .ok (.invokevirtual 72, 3) := by decide +kernel
theorem dX5_hasValue_12 : decode cX5_hasValue 12 = .ok (.ireturn, 1) := by decide +kernel
theorem dX5_hasValue_13 : decode cX5_hasValue 13 = .ok (.iconst 0, 1) := by decide +kernel
theorem dX5_hasValue_14 : decode cX5_hasValue 14 = .ok (.istore_n 3, 1) := by decide +kernel
theorem dX5_hasValue_15 : decode cX5_hasValue 15 = .ok (.iconst 0, 1) := by decide +kernel
theorem dX5_hasValue_16 : decode cX5_hasValue 16 = .ok (.istore 4, 2) := by decide +kernel
theorem dX5_hasValue_18 : decode cX5_hasValue 18 = .ok (.iload 4, 2) := by decide +kernel
theorem dX5_hasValue_20 : decode cX5_hasValue 20 = .ok (.aload_n 0, 1) := by decide +kernel
theorem dX5_hasValue_21 : decode cX5_hasValue 21 = .ok (.getfield 16, 3) := by decide +kernel
theorem dX5_hasValue_24 : decode cX5_hasValue 24 = .ok (.iload_n 1, 1) := by decide +kernel
theorem dX5_hasValue_25 : decode cX5_hasValue 25 = .ok (.iaload, 1) := by decide +kernel
theorem dX5_hasValue_26 : decode cX5_hasValue 26 = .ok (.if_icmp .ge 36, 3) := by decide +kernel
theorem dX5_hasValue_29 : decode cX5_hasValue 29 = .ok (.iload_n 3, 1) := by decide +kernel
theorem dX5_hasValue_30 : decode cX5_hasValue 30 = .ok (.ifCond .ne 20, 3) := by decide +kernel
theorem dX5_hasValue_33 : decode cX5_hasValue 33 = .ok (.aload_n 0, 1) := by decide +kernel
theorem dX5_hasValue_34 : decode cX5_hasValue 34 = .ok (.getfield 13, 3) := by decide +kernel
theorem dX5_hasValue_37 : decode cX5_hasValue 37 = .ok (.sipush 201, 3) := by decide +kernel
theorem dX5_hasValue_40 : decode cX5_hasValue 40 = .ok (.iload_n 1, 1) := by decide +kernel
theorem dX5_hasValue_41 : decode cX5_hasValue 41 = .ok (.imul, 1) := by decide +kernel
theorem dX5_hasValue_42 : decode cX5_hasValue 42 = .ok (.iload 4, 2) := by decide +kernel
theorem dX5_hasValue_44 : decode cX5_hasValue 44 = .ok (.iadd, 1) := by decide +kernel
theorem dX5_hasValue_45 : decode cX5_hasValue 45 = .ok (.iaload, 1) := by decide +kernel
theorem dX5_hasValue_46 : decode cX5_hasValue 46 = .ok (.iload_n 2, 1) := by decide +kernel
theorem dX5_hasValue_47 : decode cX5_hasValue 47 = .ok (.if_icmp .ne 7, 3) := by decide +kernel
theorem dX5_hasValue_50 : decode cX5_hasValue 50 = .ok (.iconst 1, 1) := by decide +kernel
theorem dX5_hasValue_51 : decode cX5_hasValue 51 = .ok (.goto 4, 3) := by decide +kernel
theorem dX5_hasValue_54 : decode cX5_hasValue 54 = .ok (.iconst 0, 1) := by decide +kernel
theorem dX5_hasValue_55 : decode cX5_hasValue 55 = .ok (.istore_n 3, 1) := by decide +kernel
theorem dX5_hasValue_56 : decode cX5_hasValue 56 = .ok (.iinc 4 1, 3) := by decide +kernel
theorem dX5_hasValue_59 : decode cX5_hasValue 59 = .ok (.goto (-41), 3) := by decide +kernel
theorem dX5_hasValue_62 : decode cX5_hasValue 62 = .ok (.aload_n 0, 1) := by decide +kernel
theorem dX5_hasValue_63 : decode cX5_hasValue 63 = .ok (.iload_n 3, 1) := by decide +kernel
theorem dX5_hasValue_64 : decode cX5_hasValue 64 = .ok (.invokevirtual 82, 3) := by decide +kernel
theorem dX5_hasValue_67 : decode cX5_hasValue 67 = .ok (.ireturn, 1) := by decide +kernel
theorem dX5_get_0 : decode cX5_get 0 = .ok (.iload_n 1, 1) := by decide +kernel
theorem dX5_get_1 : decode cX5_get 1 = .ok (.invokestatic 68, 3) := by decide +kernel
theorem dX5_get_4 : decode cX5_get 4 = .ok (.ifCond .ne 9, 3) := by decide +kernel
theorem dX5_get_7 : decode cX5_get 7 = .ok (.aload_n 0, 1) := by decide +kernel
theorem dX5_get_8 : decode cX5_get 8 = .ok (.iconst 1, 1) := by decide +kernel
theorem dX5_get_9 : decode cX5_get 9 = .ok (.invokevirtual 58, 3) := by decide +kernel
theorem dX5_get_12 : decode cX5_get 12 = .ok (.ireturn, 1) := by decide +kernel
theorem dX5_get_13 : decode cX5_get 13 = .ok (.aload_n 0, 1) := by decide +kernel
theorem dX5_get_14 : decode cX5_get 14 = .ok (.iload_n 1, 1) := by decide +kernel
theorem dX5_get_15 : decode cX5_get 15 = .ok (.iload_n 2, 1) := by decide +kernel
theorem dX5_get_16 : decode cX5_get 16 = .ok (.invokevirtual 50, 3) := by decide +kernel
theorem dX5_get_19 : decode cX5_get 19 = .ok (.istore 4, 2) := by decide +kernel
theorem dX5_get_21 : decode cX5_get 21 = .ok (.aload_n 0, 1) := by decide +kernel
theorem dX5_get_22 : decode cX5_get 22 = .ok (.iload 4, 2) := by decide +kernel
theorem dX5_get_24 : decode cX5_get 24 = .ok (.iconst (-1), 1) := by decide +kernel
theorem dX5_get_25 : decode cX5_get 25 = .ok (.if_icmp .ne 7, 3) := by decide +kernel
theorem dX5_get_28 : decode cX5_get 28 = .ok (.iload_n 3, 1) := by decide +kernel
theorem dX5_get_29 : decode cX5_get 29 = .ok (.goto 16, 3) := by decide +kernel
theorem dX5_get_32 : decode cX5_get 32 = .ok (.aload_n 0, 1) := by decide +kernel
theorem dX5_get_33 : decode cX5_get 33 = .ok (.getfield 13, 3) := by decide +kernel
theorem dX5_get_36 : decode cX5_get 36 = .ok (.sipush 201, 3) := by decide +kernel
theorem dX5_get_39 : decode cX5_get 39 = .ok (.iload_n 1, 1) := by decide +kernel
theorem dX5_get_40 : decode cX5_get 40 = .ok (.imul, 1) := by decide +kernel
theorem dX5_get_41 : decode cX5_get 41 = .ok (.iload 4, 2) := by decide +kernel
theorem dX5_get_43 : decode cX5_get 43 = .ok (.iadd, 1) := by decide +kernel
theorem dX5_get_44 : decode cX5_get 44 = .ok (.iaload, 1) := by decide +kernel
theorem dX5_get_45 : decode cX5_get 45 = .ok (.invokevirtual 65, 3) := by decide +kernel
theorem dX5_get_48 : decode cX5_get 48 = .ok (.ireturn, 1) := by decide +kernel
theorem dX5_keyAt_0 : decode cX5_keyAt 0 = .ok (.aload_n 0, 1) := by decide +kernel
theorem dX5_keyAt_1 : decode cX5_keyAt 1 = .ok (.iload_n 1, 1) := by decide +kernel
theorem dX5_keyAt_2 : decode cX5_keyAt 2 = .ok (.iload_n 2, 1) := by decide +kernel
theorem dX5_keyAt_3 : decode cX5_keyAt 3 = .ok (.invokevirtual 101, 3) := by decide +kernel
theorem dX5_keyAt_6 : decode cX5_keyAt 6 = .ok (.ifCond .eq 22, 3) := by decide +kernel
theorem dX5_keyAt_9 : decode cX5_keyAt 9 = .ok (.aload_n 0, 1) := by decide +kernel
theorem dX5_keyAt_10 : decode cX5_keyAt 10 = .ok (.aload_n 0, 1) := by decide +kernel
theorem dX5_keyAt_11 : decode cX5_keyAt 11 = .ok (.getfield 7, 3) := by decide +kernel
theorem dX5_keyAt_14 : decode cX5_keyAt 14 = .ok (.sipush 201, 3) := by decide +kernel
theorem dX5_keyAt_17 : decode cX5_keyAt 17 = .ok (.iload_n 1, 1) := by decide +kernel
theorem dX5_keyAt_18 : decode cX5_keyAt 18 = .ok (.imul, 1) := by decide +kernel
theorem dX5_keyAt_19 : decode cX5_keyAt 19 = .ok (.iload_n 2, 1) := by decide +kernel
theorem dX5_keyAt_20 : decode cX5_keyAt 20 = .ok (.iadd, 1) := by decide +kernel
theorem dX5_keyAt_21 : decode cX5_keyAt 21 = .ok (.iaload, 1) := by decide +kernel
theorem dX5_keyAt_22 : decode cX5_keyAt 22 = .ok (.invokevirtual 65, 3) := by decide +kernel
theorem dX5_keyAt_25 : decode cX5_keyAt 25 = .ok (.goto 8, 3) := by decide +kernel
theorem dX5_keyAt_28 : decode cX5_keyAt 28 = .ok (.aload_n 0, 1) := by decide +kernel
theorem dX5_keyAt_29 : decode cX5_keyAt 29 = .ok (.iconst 1, 1) := by decide +kernel
theorem dX5_keyAt_30 : decode cX5_keyAt 30 = .ok (.invokevirtual 58, 3) := by decide +kernel
theorem dX5_keyAt_33 : decode cX5_keyAt 33 = .ok (.ireturn, 1) := by decide +kernel
theorem dX5_valueAt_0 : decode cX5_valueAt 0 = .ok (.aload_n 0, 1) := by decide +kernel
theorem dX5_valueAt_1 : decode cX5_valueAt 1 = .ok (.iload_n 1, 1) := by decide +kernel
theorem dX5_valueAt_2 : decode cX5_valueAt 2 = .ok (.iload_n 2, 1) := by decide +kernel
theorem dX5_valueAt_3 : decode cX5_valueAt 3 = .ok (.invokevirtual 101, 3) := by decide +kernel
theorem dX5_valueAt_6 : decode cX5_valueAt 6 = .ok (.ifCond .eq 22, 3) := by decide +kernel
theorem dX5_valueAt_9 : decode cX5_valueAt 9 = .ok (.aload_n 0, 1) := by decide +kernel
theorem dX5_valueAt_10 : decode cX5_valueAt 10 = .ok (.aload_n 0, 1) := by decide +kernel
theorem dX5_valueAt_11 : decode cX5_valueAt 11 = .ok (.getfield 13, 3) := by decide +kernel
theorem dX5_valueAt_14 : decode cX5_valueAt 14 = .ok (.sipush 201, 3) := by decide +kernel
theorem dX5_valueAt_17 : decode cX5_valueAt 17 = .ok (.iload_n 1, 1) := by decide +kernel
theorem dX5_valueAt_18 : decode cX5_valueAt 18 = .ok (.imul, 1) := by decide +kernel
theorem dX5_valueAt_19 : decode cX5_valueAt 19 = .ok (.iload_n 2, 1) := by decide +kernel
theorem dX5_valueAt_20 : decode cX5_valueAt 20 = .ok (.iadd, 1) := by decide +kernel
theorem dX5_valueAt_21 : decode cX5_valueAt 21 = .ok (.iaload, 1) := by decide +kernel
theorem dX5_valueAt_22 : decode cX5_valueAt 22 = .ok (.invokevirtual 65, 3) := by decide +kernel
theorem dX5_valueAt_25 : decode cX5_valueAt 25 = .ok (.goto 8, 3) := by decide +kernel
theorem dX5_valueAt_28 : decode cX5_valueAt 28 = .ok (.aload_n 0, 1) := by decide +kernel
theorem dX5_valueAt_29 : decode cX5_valueAt 29 = .ok (.iconst 1, 1) := by decide +kernel
theorem dX5_valueAt_30 : decode cX5_valueAt 30 = .ok (.invokevirtual 58, 3) := by decide +kernel
theorem dX5_valueAt_33 : decode cX5_valueAt 33 = .ok (.ireturn, 1) := by decide +kernel
theorem dX5_placeOf_0 : decode cX5_placeOf 0 = .ok (.iload_n 1, 1) := by decide +kernel
theorem dX5_placeOf_1 : decode cX5_placeOf 1 = .ok (.invokestatic 68, 3) := by decide +kernel
theorem dX5_placeOf_4 : decode cX5_placeOf 4 = .ok (.ifCond .eq 16, 3) := by decide +kernel
theorem dX5_placeOf_7 : decode cX5_placeOf 7 = .ok (.aload_n 0, 1) := by decide +kernel
theorem dX5_placeOf_8 : decode cX5_placeOf 8 = .ok (.aload_n 0, 1) := by decide +kernel
theorem dX5_placeOf_9 : decode cX5_placeOf 9 = .ok (.iload_n 1, 1) := by decide +kernel
theorem dX5_placeOf_10 : decode cX5_placeOf 10 = .ok (.iload_n 2, 1) := by decide +kernel
theorem dX5_placeOf_11 : decode cX5_placeOf 11 = .ok (.invokevirtual 50, 3) := by decide +kernel
theorem dX5_placeOf_14 : decode cX5_placeOf 14 = .ok (.invokevirtual 65, 3) := by decide +kernel
theorem dX5_placeOf_17 : decode cX5_placeOf 17 = .ok (.goto 8, 3) := by decide +kernel
theorem dX5_placeOf_20 : decode cX5_placeOf 20 = .ok (.aload_n 0, 1) := by decide +kernel
theorem dX5_placeOf_21 : decode cX5_placeOf 21 = .ok (.iconst 1, 1) := by decide +kernel
theorem dX5_placeOf_22 : decode cX5_placeOf 22 = .ok (.invokevirtual 58, 3) := by decide +kernel
theorem dX5_placeOf_25 : decode cX5_placeOf 25 = .ok (.ireturn, 1) := by decide +kernel
theorem dX5_hasPair_0 : decode cX5_hasPair 0 = .ok (.aload_n 0, 1) := by decide +kernel
theorem dX5_hasPair_1 : decode cX5_hasPair 1 = .ok (.iload_n 1, 1) := by decide +kernel
theorem dX5_hasPair_2 : decode cX5_hasPair 2 = .ok (.iload_n 2, 1) := by decide +kernel
theorem dX5_hasPair_3 : decode cX5_hasPair 3 = .ok (.invokevirtual 50, 3) := by decide +kernel
theorem dX5_hasPair_6 : decode cX5_hasPair 6 = .ok (.istore 4, 2) := by decide +kernel
theorem dX5_hasPair_8 : decode cX5_hasPair 8 = .ok (.iload 4, 2) := by decide +kernel
theorem dX5_hasPair_10 : decode cX5_hasPair 10 = .ok (.iconst (-1), 1) := by decide +kernel
theorem dX5_hasPair_11 : decode cX5_hasPair 11 = .ok (.if_icmp .eq 24, 3) := by decide +kernel
theorem dX5_hasPair_14 : decode cX5_hasPair 14 = .ok (.aload_n 0, 1) := by decide +kernel
theorem dX5_hasPair_15 : decode cX5_hasPair 15 = .ok (.getfield 13, 3) := by decide +kernel
theorem dX5_hasPair_18 : decode cX5_hasPair 18 = .ok (.sipush 201, 3) := by decide +kernel
theorem dX5_hasPair_21 : decode cX5_hasPair 21 = .ok (.iload_n 1, 1) := by decide +kernel
theorem dX5_hasPair_22 : decode cX5_hasPair 22 = .ok (.imul, 1) := by decide +kernel
theorem dX5_hasPair_23 : decode cX5_hasPair 23 = .ok (.iload 4, 2) := by decide +kernel
theorem dX5_hasPair_25 : decode cX5_hasPair 25 = .ok (.iadd, 1) := by decide +kernel
theorem dX5_hasPair_26 : decode cX5_hasPair 26 = .ok (.iaload, 1) := by decide +kernel
theorem dX5_hasPair_27 : decode cX5_hasPair 27 = .ok (.iload_n 3, 1) := by decide +kernel
theorem dX5_hasPair_28 : decode cX5_hasPair 28 = .ok (.if_icmp .ne 7, 3) := by decide +kernel
theorem dX5_hasPair_31 : decode cX5_hasPair 31 = .ok (.iconst 1, 1) := by decide +kernel
theorem dX5_hasPair_32 : decode cX5_hasPair 32 = .ok (.goto 4, 3) := by decide +kernel
theorem dX5_hasPair_35 : decode cX5_hasPair 35 = .ok (.iconst 0, 1) := by decide +kernel
theorem dX5_hasPair_36 : decode cX5_hasPair 36 = .ok (.ireturn, 1) := by decide +kernel
theorem dX5_areEqual_0 : decode cX5_areEqual 0 = .ok (.iload_n 1, 1) := by decide +kernel
theorem dX5_areEqual_1 : decode cX5_areEqual 1 = .ok (.invokestatic 68, 3) := by decide +kernel
theorem dX5_areEqual_4 : decode cX5_areEqual 4 = .ok (.ifCond .eq 10, 3) := by decide +kernel
theorem dX5_areEqual_7 : decode cX5_areEqual 7 = .ok (.iload_n 2, 1) := by decide +kernel
theorem dX5_areEqual_8 : decode cX5_areEqual 8 = .ok (.invokestatic 68, 3) := by decide +kernel
theorem dX5_areEqual_11 : decode cX5_areEqual 11 = .ok (.ifCond .ne 9, 3) := by decide +kernel
theorem dX5_areEqual_14 : decode cX5_areEqual 14 = .ok (.aload_n 0, 1) := by decide +kernel
theorem dX5_areEqual_15 : decode cX5_areEqual 15 = .ok (.iconst 1, 1) := by decide +kernel
theorem dX5_areEqual_16 : decode cX5_areEqual 16 = .ok (.invokevirtual 72, 3) := by decide +kernel
theorem dX5_areEqual_19 : decode cX5_areEqual 19 = .ok (.ireturn, 1) := by decide +kernel
theorem dX5_areEqual_20 : decode cX5_areEqual 20 = .ok (.aload_n 0, 1) := by decide +kernel
theorem dX5_areEqual_21 : decode cX5_areEqual 21 = .ok (.getfield 16, 3) := by decide +kernel
theorem dX5_areEqual_24 : decode cX5_areEqual 24 = .ok (.iload_n 1, 1) := by decide +kernel
theorem dX5_areEqual_25 : decode cX5_areEqual 25 = .ok (.iaload, 1) := by decide +kernel
theorem dX5_areEqual_26 : decode cX5_areEqual 26 = .ok (.aload_n 0, 1) := by decide +kernel
theorem dX5_areEqual_27 : decode cX5_areEqual 27 = .ok (.getfield 16, 3) := by decide +kernel
theorem dX5_areEqual_30 : decode cX5_areEqual 30 = .ok (.iload_n 2, 1) := by decide +kernel
theorem dX5_areEqual_31 : decode cX5_areEqual 31 = .ok (.iaload, 1) := by decide +kernel
theorem dX5_areEqual_32 : decode cX5_areEqual 32 = .ok (.if_icmp .ne 7, 3) := by decide +kernel
theorem dX5_areEqual_35 : decode cX5_areEqual 35 = .ok (.iconst 1, 1) := by decide +kernel
theorem dX5_areEqual_36 : decode cX5_areEqual 36 = .ok (.goto 4, 3) := by decide +kernel
theorem dX5_areEqual_39 : decode cX5_areEqual 39 = .ok (.iconst 0, 1) := by decide +kernel
theorem dX5_areEqual_40 : decode cX5_areEqual 40 = .ok (.istore_n 3, 1) := by decide +kernel
theorem dX5_areEqual_41 : decode cX5_areEqual 41 = .ok (.iconst 0, 1) := by decide +kernel
theorem dX5_areEqual_42 : decode cX5_areEqual 42 = .ok (.istore 4, 2) := by decide +kernel
theorem dX5_areEqual_44 : decode cX5_areEqual 44 = .ok (.iload 4, 2) := by decide +kernel
theorem dX5_areEqual_46 : decode cX5_areEqual 46 = .ok (.aload_n 0, 1) := by decide +kernel
theorem dX5_areEqual_47 : decode cX5_areEqual 47 = .ok (.getfield 16, 3) := by decide +kernel
theorem dX5_areEqual_50 : decode cX5_areEqual 50 = .ok (.iload_n 1, 1) := by decide +kernel
theorem dX5_areEqual_51 : decode cX5_areEqual 51 = .ok (.iaload, 1) := by decide +kernel
theorem dX5_areEqual_52 : decode cX5_areEqual 52 = .ok (.if_icmp .ge 45, 3) := by decide +kernel
theorem dX5_areEqual_55 : decode cX5_areEqual 55 = .ok (.iload_n 3, 1) := by decide +kernel
theorem dX5_areEqual_56 : decode cX5_areEqual 56 = .ok (.ifCond .eq 41, 3) := by decide +kernel
theorem dX5_areEqual_59 : decode cX5_areEqual 59 = .ok (.aload_n 0, 1) := by decide +kernel
theorem dX5_areEqual_60 : decode cX5_areEqual 60 = .ok (.iload_n 2, 1) := by decide +kernel
theorem dX5_areEqual_61 : decode cX5_areEqual 61 = .ok (.aload_n 0, 1) := by decide +kernel
theorem dX5_areEqual_62 : decode cX5_areEqual 62 = .ok (.getfield 7, 3) := by decide +kernel
theorem dX5_areEqual_65 : decode cX5_areEqual 65 = .ok (.sipush 201, 3) := by decide +kernel
theorem dX5_areEqual_68 : decode cX5_areEqual 68 = .ok (.iload_n 1, 1) := by decide +kernel
theorem dX5_areEqual_69 : decode cX5_areEqual 69 = .ok (.imul, 1) := by decide +kernel
theorem dX5_areEqual_70 : decode cX5_areEqual 70 = .ok (.iload 4, 2) := by decide +kernel
theorem dX5_areEqual_72 : decode cX5_areEqual 72 = .ok (.iadd, 1) := by decide +kernel
theorem dX5_areEqual_73 : decode cX5_areEqual 73 = .ok (.iaload, 1) := by decide +kernel
theorem dX5_areEqual_74 : decode cX5_areEqual 74 = .ok (.aload_n 0, 1) := by decide +kernel
theorem dX5_areEqual_75 : decode cX5_areEqual 75 = .ok (.getfield 13, 3) := by decide +kernel
theorem dX5_areEqual_78 : decode cX5_areEqual 78 = .ok (.sipush 201, 3) := by decide +kernel
theorem dX5_areEqual_81 : decode cX5_areEqual 81 = .ok (.iload_n 1, 1) := by decide +kernel
theorem dX5_areEqual_82 : decode cX5_areEqual 82 = .ok (.imul, 1) := by decide +kernel
theorem dX5_areEqual_83 : decode cX5_areEqual 83 = .ok (.iload 4, 2) := by decide +kernel
theorem dX5_areEqual_85 : decode cX5_areEqual 85 = .ok (.iadd, 1) := by decide +kernel
theorem dX5_areEqual_86 : decode cX5_areEqual 86 = .ok (.iaload, 1) := by decide +kernel
theorem dX5_areEqual_87 : decode cX5_areEqual 87 = .ok (.invokevirtual 104, 3) := by decide +kernel
theorem dX5_areEqual_90 : decode cX5_areEqual 90 = .ok (.istore_n 3, 1) := by decide +kernel
theorem dX5_areEqual_91 : decode cX5_areEqual 91 = .ok (.iinc 4 1, 3) := by decide +kernel
theorem dX5_areEqual_94 : decode cX5_areEqual 94 = .ok (.goto (-50), 3) := by decide +kernel
theorem dX5_areEqual_97 : decode cX5_areEqual 97 = .ok (.aload_n 0, 1) := by decide +kernel
theorem dX5_areEqual_98 : decode cX5_areEqual 98 = .ok (.iload_n 3, 1) := by decide +kernel
theorem dX5_areEqual_99 : decode cX5_areEqual 99 = .ok (.invokevirtual 82, 3) := by decide +kernel
theorem dX5_areEqual_102 : decode cX5_areEqual 102 = .ok (.ireturn, 1) := by decide +kernel
theorem dX5_areAlike_0 : decode cX5_areAlike 0 = .ok (.iload_n 1, 1) := by decide +kernel
theorem dX5_areAlike_1 : decode cX5_areAlike 1 = .ok (.invokestatic 68, 3) := by decide +kernel
theorem dX5_areAlike_4 : decode cX5_areAlike 4 = .ok (.ifCond .eq 10, 3) := by decide +kernel
theorem dX5_areAlike_7 : decode cX5_areAlike 7 = .ok (.iload_n 2, 1) := by decide +kernel
theorem dX5_areAlike_8 : decode cX5_areAlike 8 = .ok (.invokestatic 68, 3) := by decide +kernel
theorem dX5_areAlike_11 : decode cX5_areAlike 11 = .ok (.ifCond .ne 9, 3) := by decide +kernel
theorem dX5_areAlike_14 : decode cX5_areAlike 14 = .ok (.aload_n 0, 1) := by decide +kernel
theorem dX5_areAlike_15 : decode cX5_areAlike 15 = .ok (.iconst 1, 1) := by decide +kernel
theorem dX5_areAlike_16 : decode cX5_areAlike 16 = .ok (.invokevirtual 72, 3) := by decide +kernel
theorem dX5_areAlike_19 : decode cX5_areAlike 19 = .ok (.ireturn, 1) := by decide +kernel
theorem dX5_areAlike_20 : decode cX5_areAlike 20 = .ok (.aload_n 0, 1) := by decide +kernel
theorem dX5_areAlike_21 : decode cX5_areAlike 21 = .ok (.getfield 16, 3) := by decide +kernel
theorem dX5_areAlike_24 : decode cX5_areAlike 24 = .ok (.iload_n 1, 1) := by decide +kernel
theorem dX5_areAlike_25 : decode cX5_areAlike 25 = .ok (.iaload, 1) := by decide +kernel
theorem dX5_areAlike_26 : decode cX5_areAlike 26 = .ok (.aload_n 0, 1) := by decide +kernel
theorem dX5_areAlike_27 : decode cX5_areAlike 27 = .ok (.getfield 16, 3) := by decide +kernel
theorem dX5_areAlike_30 : decode cX5_areAlike 30 = .ok (.iload_n 2, 1) := by decide +kernel
theorem dX5_areAlike_31 : decode cX5_areAlike 31 = .ok (.iaload, 1) := by decide +kernel
theorem dX5_areAlike_32 : decode cX5_areAlike 32 = .ok (.if_icmp .ne 7, 3) := by decide +kernel
theorem dX5_areAlike_35 : decode cX5_areAlike 35 = .ok (.iconst 1, 1) := by decide +kernel
theorem dX5_areAlike_36 : decode cX5_areAlike 36 = .ok (.goto 4, 3) := by decide +kernel
theorem dX5_areAlike_39 : decode cX5_areAlike 39 = .ok (.iconst 0, 1) := by decide +kernel
theorem dX5_areAlike_40 : decode cX5_areAlike 40 = .ok (.istore_n 3, 1) := by decide +kernel
theorem dX5_areAlike_41 : decode cX5_areAlike 41 = .ok (.iconst 0, 1) := by decide +kernel
theorem dX5_areAlike_42 : decode cX5_areAlike 42 = .ok (.istore 4, 2) := by decide +kernel
theorem dX5_areAlike_44 : decode cX5_areAlike 44 = .ok (.iload 4, 2) := by decide +kernel
theorem dX5_areAlike_46 : decode cX5_areAlike 46 = .ok (.aload_n 0, 1) := by decide +kernel
theorem dX5_areAlike_47 : decode cX5_areAlike 47 = .ok (.getfield 16, 3) := by decide +kernel
theorem dX5_areAlike_50 : decode cX5_areAlike 50 = .ok (.iload_n 1, 1) := by decide +kernel
theorem dX5_areAlike_51 : decode cX5_areAlike 51 = .ok (.iaload, 1) := by decide +kernel
theorem dX5_areAlike_52 : decode cX5_areAlike 52 = .ok (.if_icmp .ge 77, 3) := by decide +kernel
theorem dX5_areAlike_55 : decode cX5_areAlike 55 = .ok (.iload_n 3, 1) := by decide +kernel
theorem dX5_areAlike_56 : decode cX5_areAlike 56 = .ok (.ifCond .eq 73, 3) := by decide +kernel
theorem dX5_areAlike_59 : decode cX5_areAlike 59 = .ok (.aload_n 0, 1) := by decide +kernel
theorem dX5_areAlike_60 : decode cX5_areAlike 60 = .ok (.getfield 7, 3) := by decide +kernel
theorem dX5_areAlike_63 : decode cX5_areAlike 63 = .ok (.sipush 201, 3) := by decide +kernel
theorem dX5_areAlike_66 : decode cX5_areAlike 66 = .ok (.iload_n 1, 1) := by decide +kernel
theorem dX5_areAlike_67 : decode cX5_areAlike 67 = .ok (.imul, 1) := by decide +kernel
theorem dX5_areAlike_68 : decode cX5_areAlike 68 = .ok (.iload 4, 2) := by decide +kernel
theorem dX5_areAlike_70 : decode cX5_areAlike 70 = .ok (.iadd, 1) := by decide +kernel
theorem dX5_areAlike_71 : decode cX5_areAlike 71 = .ok (.iaload, 1) := by decide +kernel
theorem dX5_areAlike_72 : decode cX5_areAlike 72 = .ok (.aload_n 0, 1) := by decide +kernel
theorem dX5_areAlike_73 : decode cX5_areAlike 73 = .ok (.getfield 7, 3) := by decide +kernel
theorem dX5_areAlike_76 : decode cX5_areAlike 76 = .ok (.sipush 201, 3) := by decide +kernel
theorem dX5_areAlike_79 : decode cX5_areAlike 79 = .ok (.iload_n 2, 1) := by decide +kernel
theorem dX5_areAlike_80 : decode cX5_areAlike 80 = .ok (.imul, 1) := by decide +kernel
theorem dX5_areAlike_81 : decode cX5_areAlike 81 = .ok (.iload 4, 2) := by decide +kernel
theorem dX5_areAlike_83 : decode cX5_areAlike 83 = .ok (.iadd, 1) := by decide +kernel
theorem dX5_areAlike_84 : decode cX5_areAlike 84 = .ok (.iaload, 1) := by decide +kernel
theorem dX5_areAlike_85 : decode cX5_areAlike 85 = .ok (.if_icmp .ne 36, 3) := by decide +kernel
theorem dX5_areAlike_88 : decode cX5_areAlike 88 = .ok (.aload_n 0, 1) := by decide +kernel
theorem dX5_areAlike_89 : decode cX5_areAlike 89 = .ok (.getfield 13, 3) := by decide +kernel
theorem dX5_areAlike_92 : decode cX5_areAlike 92 = .ok (.sipush 201, 3) := by decide +kernel
theorem dX5_areAlike_95 : decode cX5_areAlike 95 = .ok (.iload_n 1, 1) := by decide +kernel
theorem dX5_areAlike_96 : decode cX5_areAlike 96 = .ok (.imul, 1) := by decide +kernel
theorem dX5_areAlike_97 : decode cX5_areAlike 97 = .ok (.iload 4, 2) := by decide +kernel
theorem dX5_areAlike_99 : decode cX5_areAlike 99 = .ok (.iadd, 1) := by decide +kernel
theorem dX5_areAlike_100 : decode cX5_areAlike 100 = .ok (.iaload, 1) := by decide +kernel
end
section
theorem dX5_areAlike_101 : decode cX5_areAlike 101 = .ok (.aload_n 0, 1) := by decide +kernel
theorem dX5_areAlike_102 : decode cX5_areAlike 102 = .ok (.getfield 13, 3) := by decide +kernel
theorem dX5_areAlike_105 : decode cX5_areAlike 105 = .ok (.sipush 201, 3) := by decide +kernel
theorem dX5_areAlike_108 : decode cX5_areAlike 108 = .ok (.iload_n 2, 1) := by decide +kernel
theorem dX5_areAlike_109 : decode cX5_areAlike 109 = .ok (.imul, 1) := by decide +kernel
theorem dX5_areAlike_110 : decode cX5_areAlike 110 = .ok (.iload 4, 2) := by decide +kernel
theorem dX5_areAlike_112 : decode cX5_areAlike 112 = .ok (.iadd, 1) := by decide +kernel
theorem dX5_areAlike_113 : decode cX5_areAlike 113 = .ok (.iaload, 1) := by decide +kernel
theorem dX5_areAlike_114 : decode cX5_areAlike 114 = .ok (.if_icmp .ne 7, 3) := by decide +kernel
theorem dX5_areAlike_117 : decode cX5_areAlike 117 = .ok (.iconst 1, 1) := by decide +kernel
theorem dX5_areAlike_118 : decode cX5_areAlike 118 = .ok (.goto 4, 3) := by decide +kernel
theorem dX5_areAlike_121 : decode cX5_areAlike 121 = .ok (.iconst 0, 1) := by decide +kernel
theorem dX5_areAlike_122 : decode cX5_areAlike 122 = .ok (.istore_n 3, 1) := by decide +kernel
theorem dX5_areAlike_123 : decode cX5_areAlike 123 = .ok (.iinc 4 1, 3) := by decide +kernel
theorem dX5_areAlike_126 : decode cX5_areAlike 126 = .ok (.goto (-82), 3) := by decide +kernel
theorem dX5_areAlike_129 : decode cX5_areAlike 129 = .ok (.aload_n 0, 1) := by decide +kernel
theorem dX5_areAlike_130 : decode cX5_areAlike 130 = .ok (.iload_n 3, 1) := by decide +kernel
theorem dX5_areAlike_131 : decode cX5_areAlike 131 = .ok (.invokevirtual 82, 3) := by decide +kernel
theorem dX5_areAlike_134 : decode cX5_areAlike 134 = .ok (.ireturn, 1) := by decide +kernel
theorem dX5_hash_0 : decode cX5_hash 0 = .ok (.iload_n 1, 1) := by decide +kernel
theorem dX5_hash_1 : decode cX5_hash 1 = .ok (.invokestatic 68, 3) := by decide +kernel
theorem dX5_hash_4 : decode cX5_hash 4 = .ok (.ifCond .ne 9, 3) := by decide +kernel
theorem dX5_hash_7 : decode cX5_hash 7 = .ok (.aload_n 0, 1) := by decide +kernel
theorem dX5_hash_8 : decode cX5_hash 8 = .ok (.iconst 1, 1) := by decide +kernel
theorem dX5_hash_9 : decode cX5_hash 9 = .ok (.invokevirtual 58, 3) := by decide +kernel
theorem dX5_hash_12 : decode cX5_hash 12 = .ok (.ireturn, 1) := by decide +kernel
theorem dX5_hash_13 : decode cX5_hash 13 = .ok (.iconst 0, 1) := by decide +kernel
theorem dX5_hash_14 : decode cX5_hash 14 = .ok (.istore_n 2, 1) := by decide +kernel
theorem dX5_hash_15 : decode cX5_hash 15 = .ok (.iconst 0, 1) := by decide +kernel
theorem dX5_hash_16 : decode cX5_hash 16 = .ok (.istore_n 3, 1) := by decide +kernel
theorem dX5_hash_17 : decode cX5_hash 17 = .ok (.iload_n 3, 1) := by decide +kernel
theorem dX5_hash_18 : decode cX5_hash 18 = .ok (.aload_n 0, 1) := by decide +kernel
theorem dX5_hash_19 : decode cX5_hash 19 = .ok (.getfield 16, 3) := by decide +kernel
theorem dX5_hash_22 : decode cX5_hash 22 = .ok (.iload_n 1, 1) := by decide +kernel
theorem dX5_hash_23 : decode cX5_hash 23 = .ok (.iaload, 1) := by decide +kernel
theorem dX5_hash_24 : decode cX5_hash 24 = .ok (.if_icmp .ge 37, 3) := by decide +kernel
theorem dX5_hash_27 : decode cX5_hash 27 = .ok (.iload_n 2, 1) := by decide +kernel
theorem dX5_hash_28 : decode cX5_hash 28 = .ok (.aload_n 0, 1) := by decide +kernel
theorem dX5_hash_29 : decode cX5_hash 29 = .ok (.getfield 7, 3) := by decide +kernel
theorem dX5_hash_32 : decode cX5_hash 32 = .ok (.sipush 201, 3) := by decide +kernel
theorem dX5_hash_35 : decode cX5_hash 35 = .ok (.iload_n 1, 1) := by decide +kernel
theorem dX5_hash_36 : decode cX5_hash 36 = .ok (.imul, 1) := by decide +kernel
theorem dX5_hash_37 : decode cX5_hash 37 = .ok (.iload_n 3, 1) := by decide +kernel
theorem dX5_hash_38 : decode cX5_hash 38 = .ok (.iadd, 1) := by decide +kernel
theorem dX5_hash_39 : decode cX5_hash 39 = .ok (.iaload, 1) := by decide +kernel
theorem dX5_hash_40 : decode cX5_hash 40 = .ok (.aload_n 0, 1) := by decide +kernel
theorem dX5_hash_41 : decode cX5_hash 41 = .ok (.getfield 13, 3) := by decide +kernel
theorem dX5_hash_44 : decode cX5_hash 44 = .ok (.sipush 201, 3) := by decide +kernel
theorem dX5_hash_47 : decode cX5_hash 47 = .ok (.iload_n 1, 1) := by decide +kernel
theorem dX5_hash_48 : decode cX5_hash 48 = .ok (.imul, 1) := by decide +kernel
theorem dX5_hash_49 : decode cX5_hash 49 = .ok (.iload_n 3, 1) := by decide +kernel
theorem dX5_hash_50 : decode cX5_hash 50 = .ok (.iadd, 1) := by decide +kernel
theorem dX5_hash_51 : decode cX5_hash 51 = .ok (.iaload, 1) := by decide +kernel
theorem dX5_hash_52 : decode cX5_hash 52 = .ok (.ixor, 1) := by decide +kernel
theorem dX5_hash_53 : decode cX5_hash 53 = .ok (.iadd, 1) := by decide +kernel
theorem dX5_hash_54 : decode cX5_hash 54 = .ok (.istore_n 2, 1) := by decide +kernel
theorem dX5_hash_55 : decode cX5_hash 55 = .ok (.iinc 3 1, 3) := by decide +kernel
theorem dX5_hash_58 : decode cX5_hash 58 = .ok (.goto (-41), 3) := by decide +kernel
theorem dX5_hash_61 : decode cX5_hash 61 = .ok (.aload_n 0, 1) := by decide +kernel
theorem dX5_hash_62 : decode cX5_hash 62 = .ok (.iload_n 2, 1) := by decide +kernel
theorem dX5_hash_63 : decode cX5_hash 63 = .ok (.invokevirtual 65, 3) := by decide +kernel
theorem dX5_hash_66 : decode cX5_hash 66 = .ok (.ireturn, 1) := by decide +kernel
theorem dX5_sum_0 : decode cX5_sum 0 = .ok (.aload_n 0, 1) := by decide +kernel
theorem dX5_sum_1 : decode cX5_sum 1 = .ok (.iload_n 1, 1) := by decide +kernel
theorem dX5_sum_2 : decode cX5_sum 2 = .ok (.invokestatic 68, 3) := by decide +kernel
theorem dX5_sum_5 : decode cX5_sum 5 = .ok (.ifCond .eq 7, 3) := by decide +kernel
theorem dX5_sum_8 : decode cX5_sum 8 = .ok (.iconst 0, 1) := by decide +kernel
theorem dX5_sum_9 : decode cX5_sum 9 = .ok (.goto 4, 3) := by decide +kernel
theorem dX5_sum_12 : decode cX5_sum 12 = .ok (.iconst 1, 1) := by decide +kernel
theorem dX5_sum_13 : decode cX5_sum 13 = .ok (.putfield 39, 3) := by decide +kernel
theorem dX5_sum_16 : decode cX5_sum 16 = .ok (.lconst 0, 1) := by decide +kernel
theorem dX5_sum_17 : decode cX5_sum 17 = .ok (.lstore_n 2, 1) := by decide +kernel
theorem dX5_sum_18 : decode cX5_sum 18 = .ok (.iconst 0, 1) := by decide +kernel
theorem dX5_sum_19 : decode cX5_sum 19 = .ok (.istore 4, 2) := by decide +kernel
theorem dX5_sum_21 : decode cX5_sum 21 = .ok (.aload_n 0, 1) := by decide +kernel
theorem dX5_sum_22 : decode cX5_sum 22 = .ok (.getfield 39, 3) := by decide +kernel
theorem dX5_sum_25 : decode cX5_sum 25 = .ok (.ifCond .ne 62, 3) := by decide +kernel
theorem dX5_sum_28 : decode cX5_sum 28 = .ok (.iload 4, 2) := by decide +kernel
theorem dX5_sum_30 : decode cX5_sum 30 = .ok (.aload_n 0, 1) := by decide +kernel
theorem dX5_sum_31 : decode cX5_sum 31 = .ok (.getfield 16, 3) := by decide +kernel
theorem dX5_sum_34 : decode cX5_sum 34 = .ok (.iload_n 1, 1) := by decide +kernel
theorem dX5_sum_35 : decode cX5_sum 35 = .ok (.iaload, 1) := by decide +kernel
theorem dX5_sum_36 : decode cX5_sum 36 = .ok (.if_icmp .ge 51, 3) := by decide +kernel
theorem dX5_sum_39 : decode cX5_sum 39 = .ok (.lload_n 2, 1) := by decide +kernel
theorem dX5_sum_40 : decode cX5_sum 40 = .ok (.iload 4, 2) := by decide +kernel
theorem dX5_sum_42 : decode cX5_sum 42 = .ok (.i2l, 1) := by decide +kernel
theorem dX5_sum_43 : decode cX5_sum 43 = .ok (.lconst 1, 1) := by decide +kernel
theorem dX5_sum_44 : decode cX5_sum 44 = .ok (.ladd, 1) := by decide +kernel
theorem dX5_sum_45 : decode cX5_sum 45 = .ok (.aload_n 0, 1) := by decide +kernel
theorem dX5_sum_46 : decode cX5_sum 46 = .ok (.getfield 7, 3) := by decide +kernel
theorem dX5_sum_49 : decode cX5_sum 49 = .ok (.sipush 201, 3) := by decide +kernel
theorem dX5_sum_52 : decode cX5_sum 52 = .ok (.iload_n 1, 1) := by decide +kernel
theorem dX5_sum_53 : decode cX5_sum 53 = .ok (.imul, 1) := by decide +kernel
theorem dX5_sum_54 : decode cX5_sum 54 = .ok (.iload 4, 2) := by decide +kernel
theorem dX5_sum_56 : decode cX5_sum 56 = .ok (.iadd, 1) := by decide +kernel
theorem dX5_sum_57 : decode cX5_sum 57 = .ok (.iaload, 1) := by decide +kernel
theorem dX5_sum_58 : decode cX5_sum 58 = .ok (.i2l, 1) := by decide +kernel
theorem dX5_sum_59 : decode cX5_sum 59 = .ok (.ldc2_w 107, 3) := by decide +kernel
theorem dX5_sum_62 : decode cX5_sum 62 = .ok (.aload_n 0, 1) := by decide +kernel
theorem dX5_sum_63 : decode cX5_sum 63 = .ok (.getfield 13, 3) := by decide +kernel
theorem dX5_sum_66 : decode cX5_sum 66 = .ok (.sipush 201, 3) := by decide +kernel
theorem dX5_sum_69 : decode cX5_sum 69 = .ok (.iload_n 1, 1) := by decide +kernel
theorem dX5_sum_70 : decode cX5_sum 70 = .ok (.imul, 1) := by decide +kernel
theorem dX5_sum_71 : decode cX5_sum 71 = .ok (.iload 4, 2) := by decide +kernel
theorem dX5_sum_73 : decode cX5_sum 73 = .ok (.iadd, 1) := by decide +kernel
theorem dX5_sum_74 : decode cX5_sum 74 = .ok (.iaload, 1) := by decide +kernel
theorem dX5_sum_75 : decode cX5_sum 75 = .ok (.i2l, 1) := by decide +kernel
theorem dX5_sum_76 : decode cX5_sum 76 = .ok (.lmul, 1) := by decide +kernel
theorem dX5_sum_77 : decode cX5_sum 77 = .ok (.ladd, 1) := by decide +kernel
theorem dX5_sum_78 : decode cX5_sum 78 = .ok (.lmul, 1) := by decide +kernel
theorem dX5_sum_79 : decode cX5_sum 79 = .ok (.ladd, 1) := by decide +kernel
theorem dX5_sum_80 : decode cX5_sum 80 = .ok (.lstore_n 2, 1) := by decide +kernel
theorem dX5_sum_81 : decode cX5_sum 81 = .ok (.iinc 4 1, 3) := by decide +kernel
theorem dX5_sum_84 : decode cX5_sum 84 = .ok (.goto (-63), 3) := by decide +kernel
theorem dX5_sum_87 : decode cX5_sum 87 = .ok (.lload_n 2, 1) := by decide +kernel
theorem dX5_sum_88 : decode cX5_sum 88 = .ok (.lreturn, 1) := by decide +kernel
theorem dX5_writes_0 : decode cX5_writes 0 = .ok (.aload_n 0, 1) := by decide +kernel
theorem dX5_writes_1 : decode cX5_writes 1 = .ok (.getfield 36, 3) := by decide +kernel
theorem dX5_writes_4 : decode cX5_writes 4 = .ok (.aload_n 0, 1) := by decide +kernel
theorem dX5_writes_5 : decode cX5_writes 5 = .ok (.getfield 109, 3) := by decide +kernel
theorem dX5_writes_8 : decode cX5_writes 8 = .ok (.iload_n 1, 1) := by decide +kernel
theorem dX5_writes_9 : decode cX5_writes 9 = .ok (.iastore, 1) := by decide +kernel
theorem dX5_writes_10 : decode cX5_writes 10 = .ok (.aload_n 0, 1) := by decide +kernel
theorem dX5_writes_11 : decode cX5_writes 11 = .ok (.dup, 1) := by decide +kernel
theorem dX5_writes_12 : decode cX5_writes 12 = .ok (.getfield 109, 3) := by decide +kernel
theorem dX5_writes_15 : decode cX5_writes 15 = .ok (.iconst 1, 1) := by decide +kernel
theorem dX5_writes_16 : decode cX5_writes 16 = .ok (.iadd, 1) := by decide +kernel
theorem dX5_writes_17 : decode cX5_writes 17 = .ok (.putfield 109, 3) := by decide +kernel
theorem dX5_writes_20 : decode cX5_writes 20 = .ok (.return_, 1) := by decide +kernel
theorem dX5_writesNumber_0 : decode cX5_writesNumber 0 = .ok (.iload_n 1, 1) := by decide +kernel
theorem dX5_writesNumber_1 : decode cX5_writesNumber 1 = .ok (.ifCond .ge 9, 3) := by decide +kernel
theorem dX5_writesNumber_4 : decode cX5_writesNumber 4 = .ok (.iload_n 1, 1) := by decide +kernel
theorem dX5_writesNumber_5 : decode cX5_writesNumber 5 = .ok (.i2l, 1) := by decide +kernel
theorem dX5_writesNumber_6 : decode cX5_writesNumber 6 = .ok (.lneg, 1) := by decide +kernel
theorem dX5_writesNumber_7 : decode cX5_writesNumber 7 = .ok (.goto 5, 3) := by decide +kernel
theorem dX5_writesNumber_10 : decode cX5_writesNumber 10 = .ok (.iload_n 1, 1) := by decide +kernel
theorem dX5_writesNumber_11 : decode cX5_writesNumber 11 = .ok (.i2l, 1) := by decide +kernel
theorem dX5_writesNumber_12 : decode cX5_writesNumber 12 = .ok (.lstore_n 2, 1) := by decide +kernel
theorem dX5_writesNumber_13 : decode cX5_writesNumber 13 = .ok (.iload_n 1, 1) := by decide +kernel
theorem dX5_writesNumber_14 : decode cX5_writesNumber 14 = .ok (.ifCond .ge 9, 3) := by decide +kernel
theorem dX5_writesNumber_17 : decode cX5_writesNumber 17 = .ok (.aload_n 0, 1) := by decide +kernel
theorem dX5_writesNumber_18 : decode cX5_writesNumber 18 = .ok (.bipush 45, 2) := by decide +kernel
theorem dX5_writesNumber_20 : decode cX5_writesNumber 20 = .ok (.invokevirtual 112, 3) := by decide +kernel
theorem dX5_writesNumber_23 : decode cX5_writesNumber 23 = .ok (.lconst 1, 1) := by decide +kernel
theorem dX5_writesNumber_24 : decode cX5_writesNumber 24 = .ok (.lstore 4, 2) := by decide +kernel
theorem dX5_writesNumber_26 : decode cX5_writesNumber 26 = .ok (.lload_n 2, 1) := by decide +kernel
theorem dX5_writesNumber_27 : decode cX5_writesNumber 27 = .ok (.lload 4, 2) := by decide +kernel
theorem dX5_writesNumber_29 : decode cX5_writesNumber 29 = .ok (.ldiv, 1) := by decide +kernel
theorem dX5_writesNumber_30 : decode cX5_writesNumber 30 = .ok (.ldc2_w 116, 3) := by decide +kernel
theorem dX5_writesNumber_33 : decode cX5_writesNumber 33 = .ok (.lcmp, 1) := by decide +kernel
theorem dX5_writesNumber_34 : decode cX5_writesNumber 34 = .ok (.ifCond .lt 14, 3) := by decide +kernel
theorem dX5_writesNumber_37 : decode cX5_writesNumber 37 = .ok (.lload 4, 2) := by decide +kernel
theorem dX5_writesNumber_39 : decode cX5_writesNumber 39 = .ok (.ldc2_w 116, 3) := by decide +kernel
theorem dX5_writesNumber_42 : decode cX5_writesNumber 42 = .ok (.lmul, 1) := by decide +kernel
theorem dX5_writesNumber_43 : decode cX5_writesNumber 43 = .ok (.lstore 4, 2) := by decide +kernel
theorem dX5_writesNumber_45 : decode cX5_writesNumber 45 = .ok (.goto (-19), 3) := by decide +kernel
theorem dX5_writesNumber_48 : decode cX5_writesNumber 48 = .ok (.lload 4, 2) := by decide +kernel
theorem dX5_writesNumber_50 : decode cX5_writesNumber 50 = .ok (.lconst 0, 1) := by decide +kernel
theorem dX5_writesNumber_51 : decode cX5_writesNumber 51 = .ok (.lcmp, 1) := by decide +kernel
theorem dX5_writesNumber_52 : decode cX5_writesNumber 52 = .ok (.ifCond .le 31, 3) := by decide +kernel
theorem dX5_writesNumber_55 : decode cX5_writesNumber 55 = .ok (.aload_n 0, 1) := by decide +kernel
theorem dX5_writesNumber_56 : decode cX5_writesNumber 56 = .ok (.ldc2_w 118, 3) := by decide +kernel
theorem dX5_writesNumber_59 : decode cX5_writesNumber 59 = .ok (.lload_n 2, 1) := by decide +kernel
theorem dX5_writesNumber_60 : decode cX5_writesNumber 60 = .ok (.lload 4, 2) := by decide +kernel
theorem dX5_writesNumber_62 : decode cX5_writesNumber 62 = .ok (.ldiv, 1) := by decide +kernel
theorem dX5_writesNumber_63 : decode cX5_writesNumber 63 = .ok (.ldc2_w 116, 3) := by decide +kernel
theorem dX5_writesNumber_66 : decode cX5_writesNumber 66 = .ok (.lrem, 1) := by decide +kernel
theorem dX5_writesNumber_67 : decode cX5_writesNumber 67 = .ok (.ladd, 1) := by decide +kernel
theorem dX5_writesNumber_68 : decode cX5_writesNumber 68 = .ok (.l2i, 1) := by decide +kernel
theorem dX5_writesNumber_69 : decode cX5_writesNumber 69 = .ok (.invokevirtual 112, 3) := by decide +kernel
theorem dX5_writesNumber_72 : decode cX5_writesNumber 72 = .ok (.lload 4, 2) := by decide +kernel
theorem dX5_writesNumber_74 : decode cX5_writesNumber 74 = .ok (.ldc2_w 116, 3) := by decide +kernel
theorem dX5_writesNumber_77 : decode cX5_writesNumber 77 = .ok (.ldiv, 1) := by decide +kernel
theorem dX5_writesNumber_78 : decode cX5_writesNumber 78 = .ok (.lstore 4, 2) := by decide +kernel
theorem dX5_writesNumber_80 : decode cX5_writesNumber 80 = .ok (.goto (-32), 3) := by decide +kernel
theorem dX5_writesNumber_83 : decode cX5_writesNumber 83 = .ok (.return_, 1) := by decide +kernel
theorem dX5_write_0 : decode cX5_write 0 = .ok (.iload_n 1, 1) := by decide +kernel
theorem dX5_write_1 : decode cX5_write 1 = .ok (.invokestatic 68, 3) := by decide +kernel
theorem dX5_write_4 : decode cX5_write 4 = .ok (.ifCond .ne 9, 3) := by decide +kernel
theorem dX5_write_7 : decode cX5_write 7 = .ok (.aload_n 0, 1) := by decide +kernel
theorem dX5_write_8 : decode cX5_write 8 = .ok (.iconst 1, 1) := by decide +kernel
theorem dX5_write_9 : decode cX5_write 9 = .ok (.invokevirtual 58, 3) := by decide +kernel
theorem dX5_write_12 : decode cX5_write 12 = .ok (.ireturn, 1) := by decide +kernel
theorem dX5_write_13 : decode cX5_write 13 = .ok (.aload_n 0, 1) := by decide +kernel
theorem dX5_write_14 : decode cX5_write 14 = .ok (.iconst 0, 1) := by decide +kernel
theorem dX5_write_15 : decode cX5_write 15 = .ok (.putfield 109, 3) := by decide +kernel
theorem dX5_write_18 : decode cX5_write 18 = .ok (.aload_n 0, 1) := by decide +kernel
theorem dX5_write_19 : decode cX5_write 19 = .ok (.bipush 123, 2) := by decide +kernel
theorem dX5_write_21 : decode cX5_write 21 = .ok (.invokevirtual 112, 3) := by decide +kernel
theorem dX5_write_24 : decode cX5_write 24 = .ok (.iconst 0, 1) := by decide +kernel
theorem dX5_write_25 : decode cX5_write 25 = .ok (.istore_n 2, 1) := by decide +kernel
theorem dX5_write_26 : decode cX5_write 26 = .ok (.iload_n 2, 1) := by decide +kernel
theorem dX5_write_27 : decode cX5_write 27 = .ok (.aload_n 0, 1) := by decide +kernel
theorem dX5_write_28 : decode cX5_write 28 = .ok (.getfield 16, 3) := by decide +kernel
theorem dX5_write_31 : decode cX5_write 31 = .ok (.iload_n 1, 1) := by decide +kernel
theorem dX5_write_32 : decode cX5_write 32 = .ok (.iaload, 1) := by decide +kernel
theorem dX5_write_33 : decode cX5_write 33 = .ok (.if_icmp .ge 63, 3) := by decide +kernel
theorem dX5_write_36 : decode cX5_write 36 = .ok (.iload_n 2, 1) := by decide +kernel
theorem dX5_write_37 : decode cX5_write 37 = .ok (.ifCond .le 15, 3) := by decide +kernel
theorem dX5_write_40 : decode cX5_write 40 = .ok (.aload_n 0, 1) := by decide +kernel
theorem dX5_write_41 : decode cX5_write 41 = .ok (.bipush 44, 2) := by decide +kernel
theorem dX5_write_43 : decode cX5_write 43 = .ok (.invokevirtual 112, 3) := by decide +kernel
theorem dX5_write_46 : decode cX5_write 46 = .ok (.aload_n 0, 1) := by decide +kernel
theorem dX5_write_47 : decode cX5_write 47 = .ok (.bipush 32, 2) := by decide +kernel
theorem dX5_write_49 : decode cX5_write 49 = .ok (.invokevirtual 112, 3) := by decide +kernel
theorem dX5_write_52 : decode cX5_write 52 = .ok (.aload_n 0, 1) := by decide +kernel
theorem dX5_write_53 : decode cX5_write 53 = .ok (.aload_n 0, 1) := by decide +kernel
theorem dX5_write_54 : decode cX5_write 54 = .ok (.getfield 7, 3) := by decide +kernel
theorem dX5_write_57 : decode cX5_write 57 = .ok (.sipush 201, 3) := by decide +kernel
theorem dX5_write_60 : decode cX5_write 60 = .ok (.iload_n 1, 1) := by decide +kernel
theorem dX5_write_61 : decode cX5_write 61 = .ok (.imul, 1) := by decide +kernel
theorem dX5_write_62 : decode cX5_write 62 = .ok (.iload_n 2, 1) := by decide +kernel
theorem dX5_write_63 : decode cX5_write 63 = .ok (.iadd, 1) := by decide +kernel
theorem dX5_write_64 : decode cX5_write 64 = .ok (.iaload, 1) := by decide +kernel
theorem dX5_write_65 : decode cX5_write 65 = .ok (.invokevirtual 120, 3) := by decide +kernel
theorem dX5_write_68 : decode cX5_write 68 = .ok (.aload_n 0, 1) := by decide +kernel
theorem dX5_write_69 : decode cX5_write 69 = .ok (.bipush 61, 2) := by decide +kernel
theorem dX5_write_71 : decode cX5_write 71 = .ok (.invokevirtual 112, 3) := by decide +kernel
theorem dX5_write_74 : decode cX5_write 74 = .ok (.aload_n 0, 1) := by decide +kernel
theorem dX5_write_75 : decode cX5_write 75 = .ok (.aload_n 0, 1) := by decide +kernel
theorem dX5_write_76 : decode cX5_write 76 = .ok (.getfield 13, 3) := by decide +kernel
theorem dX5_write_79 : decode cX5_write 79 = .ok (.sipush 201, 3) := by decide +kernel
theorem dX5_write_82 : decode cX5_write 82 = .ok (.iload_n 1, 1) := by decide +kernel
theorem dX5_write_83 : decode cX5_write 83 = .ok (.imul, 1) := by decide +kernel
theorem dX5_write_84 : decode cX5_write 84 = .ok (.iload_n 2, 1) := by decide +kernel
theorem dX5_write_85 : decode cX5_write 85 = .ok (.iadd, 1) := by decide +kernel
theorem dX5_write_86 : decode cX5_write 86 = .ok (.iaload, 1) := by decide +kernel
theorem dX5_write_87 : decode cX5_write 87 = .ok (.invokevirtual 120, 3) := by decide +kernel
theorem dX5_write_90 : decode cX5_write 90 = .ok (.iinc 2 1, 3) := by decide +kernel
theorem dX5_write_93 : decode cX5_write 93 = .ok (.goto (-67), 3) := by decide +kernel
theorem dX5_write_96 : decode cX5_write 96 = .ok (.aload_n 0, 1) := by decide +kernel
theorem dX5_write_97 : decode cX5_write 97 = .ok (.bipush 125, 2) := by decide +kernel
theorem dX5_write_99 : decode cX5_write 99 = .ok (.invokevirtual 112, 3) := by decide +kernel
theorem dX5_write_102 : decode cX5_write 102 = .ok (.aload_n 0, 1) := by decide +kernel
theorem dX5_write_103 : decode cX5_write 103 = .ok (.aload_n 0, 1) := by decide +kernel
theorem dX5_write_104 : decode cX5_write 104 = .ok (.getfield 109, 3) := by decide +kernel
theorem dX5_write_107 : decode cX5_write 107 = .ok (.invokevirtual 65, 3) := by decide +kernel
theorem dX5_write_110 : decode cX5_write 110 = .ok (.ireturn, 1) := by decide +kernel
theorem dX5_outputAt_0 : decode cX5_outputAt 0 = .ok (.iload_n 1, 1) := by decide +kernel
theorem dX5_outputAt_1 : decode cX5_outputAt 1 = .ok (.iconst 0, 1) := by decide +kernel
theorem dX5_outputAt_2 : decode cX5_outputAt 2 = .ok (.aload_n 0, 1) := by decide +kernel
theorem dX5_outputAt_3 : decode cX5_outputAt 3 = .ok (.getfield 109, 3) := by decide +kernel
theorem dX5_outputAt_6 : decode cX5_outputAt 6 = .ok (.iconst 1, 1) := by decide +kernel
theorem dX5_outputAt_7 : decode cX5_outputAt 7 = .ok (.isub, 1) := by decide +kernel
theorem dX5_outputAt_8 : decode cX5_outputAt 8 = .ok (.invokestatic 42, 3) := by decide +kernel
theorem dX5_outputAt_11 : decode cX5_outputAt 11 = .ok (.ifCond .eq 16, 3) := by decide +kernel
theorem dX5_outputAt_14 : decode cX5_outputAt 14 = .ok (.aload_n 0, 1) := by decide +kernel
theorem dX5_outputAt_15 : decode cX5_outputAt 15 = .ok (.aload_n 0, 1) := by decide +kernel
theorem dX5_outputAt_16 : decode cX5_outputAt 16 = .ok (.getfield 36, 3) := by decide +kernel
theorem dX5_outputAt_19 : decode cX5_outputAt 19 = .ok (.iload_n 1, 1) := by decide +kernel
theorem dX5_outputAt_20 : decode cX5_outputAt 20 = .ok (.iaload, 1) := by decide +kernel
theorem dX5_outputAt_21 : decode cX5_outputAt 21 = .ok (.invokevirtual 65, 3) := by decide +kernel
theorem dX5_outputAt_24 : decode cX5_outputAt 24 = .ok (.goto 8, 3) := by decide +kernel
theorem dX5_outputAt_27 : decode cX5_outputAt 27 = .ok (.aload_n 0, 1) := by decide +kernel
theorem dX5_outputAt_28 : decode cX5_outputAt 28 = .ok (.iconst 1, 1) := by decide +kernel
theorem dX5_outputAt_29 : decode cX5_outputAt 29 = .ok (.invokevirtual 58, 3) := by decide +kernel
theorem dX5_outputAt_32 : decode cX5_outputAt 32 = .ok (.ireturn, 1) := by decide +kernel
theorem dX5_isAddRefused_0 : decode cX5_isAddRefused 0 = .ok (.iload_n 1, 1) := by decide +kernel
theorem dX5_isAddRefused_1 : decode cX5_isAddRefused 1 = .ok (.invokestatic 68, 3) := by decide +kernel
theorem dX5_isAddRefused_4 : decode cX5_isAddRefused 4 = .ok (.ifCond .ne 9, 3) := by decide +kernel
theorem dX5_isAddRefused_7 : decode cX5_isAddRefused 7 = .ok (.aload_n 0, 1) := by decide +kernel
theorem dX5_isAddRefused_8 : decode cX5_isAddRefused 8 = .ok (.iconst 1, 1) := by decide +kernel
theorem dX5_isAddRefused_9 : decode cX5_isAddRefused 9 = .ok (.invokevirtual 72, 3) := by decide +kernel
theorem dX5_isAddRefused_12 : decode cX5_isAddRefused 12 = .ok (.ireturn, 1) := by decide +kernel
theorem dX5_isAddRefused_13 : decode cX5_isAddRefused 13 = .ok (.iload_n 2, 1) := by decide +kernel
theorem dX5_isAddRefused_14 : decode cX5_isAddRefused 14 = .ok (.iconst 0, 1) := by decide +kernel
theorem dX5_isAddRefused_15 : decode cX5_isAddRefused 15 = .ok (.iconst 2, 1) := by decide +kernel
theorem dX5_isAddRefused_16 : decode cX5_isAddRefused 16 = .ok (.invokestatic 42, 3) := by decide +kernel
theorem dX5_isAddRefused_19 : decode cX5_isAddRefused 19 = .ok (.ifCond .eq 11, 3) := by decide +kernel
theorem dX5_isAddRefused_22 : decode cX5_isAddRefused 22 = .ok (.aload_n 0, 1) := by decide +kernel
theorem dX5_isAddRefused_23 : decode cX5_isAddRefused 23 = .ok (.iconst 1, 1) := by decide +kernel
theorem dX5_isAddRefused_24 : decode cX5_isAddRefused 24 = .ok (.invokevirtual 82, 3) := by decide +kernel
theorem dX5_isAddRefused_27 : decode cX5_isAddRefused 27 = .ok (.goto 8, 3) := by decide +kernel
theorem dX5_isAddRefused_30 : decode cX5_isAddRefused 30 = .ok (.aload_n 0, 1) := by decide +kernel
theorem dX5_isAddRefused_31 : decode cX5_isAddRefused 31 = .ok (.iconst 2, 1) := by decide +kernel
theorem dX5_isAddRefused_32 : decode cX5_isAddRefused 32 = .ok (.invokevirtual 72, 3) := by decide +kernel
theorem dX5_isAddRefused_35 : decode cX5_isAddRefused 35 = .ok (.ireturn, 1) := by decide +kernel
theorem dX5_isNothingRefused_0 : decode cX5_isNothingRefused 0 = .ok (.iload_n 1, 1) := by decide +kernel
theorem dX5_isNothingRefused_1 : decode cX5_isNothingRefused 1 = .ok (.invokestatic 68, 3) := by decide +kernel
theorem dX5_isNothingRefused_4 : decode cX5_isNothingRefused 4 = .ok (.ifCond .ne 9, 3) := by decide +kernel
theorem dX5_isNothingRefused_7 : decode cX5_isNothingRefused 7 = .ok (.aload_n 0, 1) := by decide +kernel
theorem dX5_isNothingRefused_8 : decode cX5_isNothingRefused 8 = .ok (.iconst 1, 1) := by decide +kernel
theorem dX5_isNothingRefused_9 : decode cX5_isNothingRefused 9 = .ok (.invokevirtual 72, 3) := by decide +kernel
theorem dX5_isNothingRefused_12 : decode cX5_isNothingRefused 12 = .ok (.ireturn, 1) := by decide +kernel
theorem dX5_isNothingRefused_13 : decode cX5_isNothingRefused 13 = .ok (.iload_n 1, 1) := by decide +kernel
theorem dX5_isNothingRefused_14 : decode cX5_isNothingRefused 14 = .ok (.invokestatic 86, 3) := by decide +kernel
theorem dX5_isNothingRefused_17 : decode cX5_isNothingRefused 17 = .ok (.ifCond .eq 11, 3) := by decide +kernel
theorem dX5_isNothingRefused_20 : decode cX5_isNothingRefused 20 = .ok (.aload_n 0, 1) := by decide +kernel
theorem dX5_isNothingRefused_21 : decode cX5_isNothingRefused 21 = .ok (.iconst 1, 1) := by decide +kernel
theorem dX5_isNothingRefused_22 : decode cX5_isNothingRefused 22 = .ok (.invokevirtual 82, 3) := by decide +kernel
theorem dX5_isNothingRefused_25 : decode cX5_isNothingRefused 25 = .ok (.goto 8, 3) := by decide +kernel
theorem dX5_isNothingRefused_28 : decode cX5_isNothingRefused 28 = .ok (.aload_n 0, 1) := by decide +kernel
theorem dX5_isNothingRefused_29 : decode cX5_isNothingRefused 29 = .ok (.iconst 2, 1) := by decide +kernel
theorem dX5_isNothingRefused_30 : decode cX5_isNothingRefused 30 = .ok (.invokevirtual 72, 3) := by decide +kernel
theorem dX5_isNothingRefused_33 : decode cX5_isNothingRefused 33 = .ok (.ireturn, 1) := by decide +kernel
theorem dX5_mean_0 : decode cX5_mean 0 = .ok (.aload_n 0, 1) := by decide +kernel
theorem dX5_mean_1 : decode cX5_mean 1 = .ok (.iload_n 1, 1) := by decide +kernel
theorem dX5_mean_2 : decode cX5_mean 2 = .ok (.invokestatic 68, 3) := by decide +kernel
theorem dX5_mean_5 : decode cX5_mean 5 = .ok (.ifCond .eq 7, 3) := by decide +kernel
theorem dX5_mean_8 : decode cX5_mean 8 = .ok (.iconst 0, 1) := by decide +kernel
theorem dX5_mean_9 : decode cX5_mean 9 = .ok (.goto 4, 3) := by decide +kernel
theorem dX5_mean_12 : decode cX5_mean 12 = .ok (.iconst 1, 1) := by decide +kernel
theorem dX5_mean_13 : decode cX5_mean 13 = .ok (.putfield 39, 3) := by decide +kernel
theorem dX5_mean_16 : decode cX5_mean 16 = .ok (.aload_n 0, 1) := by decide +kernel
theorem dX5_mean_17 : decode cX5_mean 17 = .ok (.getfield 39, 3) := by decide +kernel
theorem dX5_mean_20 : decode cX5_mean 20 = .ok (.ifCond .ne 12, 3) := by decide +kernel
theorem dX5_mean_23 : decode cX5_mean 23 = .ok (.aload_n 0, 1) := by decide +kernel
theorem dX5_mean_24 : decode cX5_mean 24 = .ok (.getfield 16, 3) := by decide +kernel
theorem dX5_mean_27 : decode cX5_mean 27 = .ok (.iload_n 1, 1) := by decide +kernel
theorem dX5_mean_28 : decode cX5_mean 28 = .ok (.iaload, 1) := by decide +kernel
theorem dX5_mean_29 : decode cX5_mean 29 = .ok (.ifCond .ne 5, 3) := by decide +kernel
theorem dX5_mean_32 : decode cX5_mean 32 = .ok (.dconst 0, 1) := by decide +kernel
theorem dX5_mean_33 : decode cX5_mean 33 = .ok (.dreturn, 1) := by decide +kernel
theorem dX5_mean_34 : decode cX5_mean 34 = .ok (.lconst 0, 1) := by decide +kernel
theorem dX5_mean_35 : decode cX5_mean 35 = .ok (.lstore_n 2, 1) := by decide +kernel
theorem dX5_mean_36 : decode cX5_mean 36 = .ok (.iconst 0, 1) := by decide +kernel
theorem dX5_mean_37 : decode cX5_mean 37 = .ok (.istore 4, 2) := by decide +kernel
theorem dX5_mean_39 : decode cX5_mean 39 = .ok (.iload 4, 2) := by decide +kernel
theorem dX5_mean_41 : decode cX5_mean 41 = .ok (.aload_n 0, 1) := by decide +kernel
theorem dX5_mean_42 : decode cX5_mean 42 = .ok (.getfield 16, 3) := by decide +kernel
theorem dX5_mean_45 : decode cX5_mean 45 = .ok (.iload_n 1, 1) := by decide +kernel
theorem dX5_mean_46 : decode cX5_mean 46 = .ok (.iaload, 1) := by decide +kernel
theorem dX5_mean_47 : decode cX5_mean 47 = .ok (.if_icmp .ge 26, 3) := by decide +kernel
theorem dX5_mean_50 : decode cX5_mean 50 = .ok (.lload_n 2, 1) := by decide +kernel
theorem dX5_mean_51 : decode cX5_mean 51 = .ok (.aload_n 0, 1) := by decide +kernel
theorem dX5_mean_52 : decode cX5_mean 52 = .ok (.getfield 13, 3) := by decide +kernel
theorem dX5_mean_55 : decode cX5_mean 55 = .ok (.sipush 201, 3) := by decide +kernel
theorem dX5_mean_58 : decode cX5_mean 58 = .ok (.iload_n 1, 1) := by decide +kernel
theorem dX5_mean_59 : decode cX5_mean 59 = .ok (.imul, 1) := by decide +kernel
theorem dX5_mean_60 : decode cX5_mean 60 = .ok (.iload 4, 2) := by decide +kernel
theorem dX5_mean_62 : decode cX5_mean 62 = .ok (.iadd, 1) := by decide +kernel
theorem dX5_mean_63 : decode cX5_mean 63 = .ok (.iaload, 1) := by decide +kernel
theorem dX5_mean_64 : decode cX5_mean 64 = .ok (.i2l, 1) := by decide +kernel
theorem dX5_mean_65 : decode cX5_mean 65 = .ok (.ladd, 1) := by decide +kernel
theorem dX5_mean_66 : decode cX5_mean 66 = .ok (.lstore_n 2, 1) := by decide +kernel
theorem dX5_mean_67 : decode cX5_mean 67 = .ok (.iinc 4 1, 3) := by decide +kernel
theorem dX5_mean_70 : decode cX5_mean 70 = .ok (.goto (-31), 3) := by decide +kernel
theorem dX5_mean_73 : decode cX5_mean 73 = .ok (.lload_n 2, 1) := by decide +kernel
theorem dX5_mean_74 : decode cX5_mean 74 = .ok (.l2d, 1) := by decide +kernel
theorem dX5_mean_75 : decode cX5_mean 75 = .ok (.aload_n 0, 1) := by decide +kernel
theorem dX5_mean_76 : decode cX5_mean 76 = .ok (.getfield 16, 3) := by decide +kernel
theorem dX5_mean_79 : decode cX5_mean 79 = .ok (.iload_n 1, 1) := by decide +kernel
theorem dX5_mean_80 : decode cX5_mean 80 = .ok (.iaload, 1) := by decide +kernel
theorem dX5_mean_81 : decode cX5_mean 81 = .ok (.i2d, 1) := by decide +kernel
theorem dX5_mean_82 : decode cX5_mean 82 = .ok (.ddiv, 1) := by decide +kernel
theorem dX5_mean_83 : decode cX5_mean 83 = .ok (.dreturn, 1) := by decide +kernel
theorem dX5_fullness_0 : decode cX5_fullness 0 = .ok (.aload_n 0, 1) := by decide +kernel
theorem dX5_fullness_1 : decode cX5_fullness 1 = .ok (.iconst 0, 1) := by decide +kernel
theorem dX5_fullness_2 : decode cX5_fullness 2 = .ok (.putfield 39, 3) := by decide +kernel
theorem dX5_fullness_5 : decode cX5_fullness 5 = .ok (.aload_n 0, 1) := by decide +kernel
theorem dX5_fullness_6 : decode cX5_fullness 6 = .ok (.getfield 16, 3) := by decide +kernel
theorem dX5_fullness_9 : decode cX5_fullness 9 = .ok (.iconst 2, 1) := by decide +kernel
theorem dX5_fullness_10 : decode cX5_fullness 10 = .ok (.iaload, 1) := by decide +kernel
theorem dX5_fullness_11 : decode cX5_fullness 11 = .ok (.i2f, 1) := by decide +kernel
theorem dX5_fullness_12 : decode cX5_fullness 12 = .ok (.aload_n 0, 1) := by decide +kernel
theorem dX5_fullness_13 : decode cX5_fullness 13 = .ok (.getfield 19, 3) := by decide +kernel
theorem dX5_fullness_16 : decode cX5_fullness 16 = .ok (.i2f, 1) := by decide +kernel
theorem dX5_fullness_17 : decode cX5_fullness 17 = .ok (.fdiv, 1) := by decide +kernel
theorem dX5_fullness_18 : decode cX5_fullness 18 = .ok (.freturn, 1) := by decide +kernel
theorem dX5_isTrue_0 : decode cX5_isTrue 0 = .ok (.iconst 0, 1) := by decide +kernel
theorem dX5_isTrue_1 : decode cX5_isTrue 1 = .ok (.istore_n 2, 1) := by decide +kernel
theorem dX5_isTrue_2 : decode cX5_isTrue 2 = .ok (.aload_n 0, 1) := by decide +kernel
theorem dX5_isTrue_3 : decode cX5_isTrue 3 = .ok (.getfield 16, 3) := by decide +kernel
theorem dX5_isTrue_6 : decode cX5_isTrue 6 = .ok (.iload_n 1, 1) := by decide +kernel
theorem dX5_isTrue_7 : decode cX5_isTrue 7 = .ok (.iaload, 1) := by decide +kernel
theorem dX5_isTrue_8 : decode cX5_isTrue 8 = .ok (.iload_n 1, 1) := by decide +kernel
theorem dX5_isTrue_9 : decode cX5_isTrue 9 = .ok (.iconst 2, 1) := by decide +kernel
theorem dX5_isTrue_10 : decode cX5_isTrue 10 = .ok (.if_icmp .ne 10, 3) := by decide +kernel
theorem dX5_isTrue_13 : decode cX5_isTrue 13 = .ok (.aload_n 0, 1) := by decide +kernel
theorem dX5_isTrue_14 : decode cX5_isTrue 14 = .ok (.getfield 19, 3) := by decide +kernel
theorem dX5_isTrue_17 : decode cX5_isTrue 17 = .ok (.goto 6, 3) := by decide +kernel
theorem dX5_isTrue_20 : decode cX5_isTrue 20 = .ok (.sipush 200, 3) := by decide +kernel
theorem dX5_isTrue_23 : decode cX5_isTrue 23 = .ok (.if_icmp .gt 7, 3) := by decide +kernel
theorem dX5_isTrue_26 : decode cX5_isTrue 26 = .ok (.iconst 1, 1) := by decide +kernel
theorem dX5_isTrue_27 : decode cX5_isTrue 27 = .ok (.goto 4, 3) := by decide +kernel
theorem dX5_isTrue_30 : decode cX5_isTrue 30 = .ok (.iconst 0, 1) := by decide +kernel
theorem dX5_isTrue_31 : decode cX5_isTrue 31 = .ok (.istore_n 3, 1) := by decide +kernel
theorem dX5_isTrue_32 : decode cX5_isTrue 32 = .ok (.aload_n 0, 1) := by decide +kernel
theorem dX5_isTrue_33 : decode cX5_isTrue 33 = .ok (.getfield 16, 3) := by decide +kernel
theorem dX5_isTrue_36 : decode cX5_isTrue 36 = .ok (.iload_n 1, 1) := by decide +kernel
theorem dX5_isTrue_37 : decode cX5_isTrue 37 = .ok (.iaload, 1) := by decide +kernel
theorem dX5_isTrue_38 : decode cX5_isTrue 38 = .ok (.iconst 1, 1) := by decide +kernel
theorem dX5_isTrue_39 : decode cX5_isTrue 39 = .ok (.isub, 1) := by decide +kernel
theorem dX5_isTrue_40 : decode cX5_isTrue 40 = .ok (.istore 4, 2) := by decide +kernel
theorem dX5_isTrue_42 : decode cX5_isTrue 42 = .ok (.iload 4, 2) := by decide +kernel
theorem dX5_isTrue_44 : decode cX5_isTrue 44 = .ok (.ifCond .lt 65, 3) := by decide +kernel
theorem dX5_isTrue_47 : decode cX5_isTrue 47 = .ok (.iload_n 3, 1) := by decide +kernel
theorem dX5_isTrue_48 : decode cX5_isTrue 48 = .ok (.ifCond .eq 61, 3) := by decide +kernel
theorem dX5_isTrue_51 : decode cX5_isTrue 51 = .ok (.aload_n 0, 1) := by decide +kernel
theorem dX5_isTrue_52 : decode cX5_isTrue 52 = .ok (.getfield 7, 3) := by decide +kernel
theorem dX5_isTrue_55 : decode cX5_isTrue 55 = .ok (.sipush 201, 3) := by decide +kernel
theorem dX5_isTrue_58 : decode cX5_isTrue 58 = .ok (.iload_n 1, 1) := by decide +kernel
theorem dX5_isTrue_59 : decode cX5_isTrue 59 = .ok (.imul, 1) := by decide +kernel
theorem dX5_isTrue_60 : decode cX5_isTrue 60 = .ok (.iload 4, 2) := by decide +kernel
theorem dX5_isTrue_62 : decode cX5_isTrue 62 = .ok (.iadd, 1) := by decide +kernel
theorem dX5_isTrue_63 : decode cX5_isTrue 63 = .ok (.iaload, 1) := by decide +kernel
theorem dX5_isTrue_64 : decode cX5_isTrue 64 = .ok (.istore 5, 2) := by decide +kernel
theorem dX5_isTrue_66 : decode cX5_isTrue 66 = .ok (.aload_n 0, 1) := by decide +kernel
theorem dX5_isTrue_67 : decode cX5_isTrue 67 = .ok (.iload_n 1, 1) := by decide +kernel
theorem dX5_isTrue_68 : decode cX5_isTrue 68 = .ok (.iload 5, 2) := by decide +kernel
theorem dX5_isTrue_70 : decode cX5_isTrue 70 = .ok (.invokevirtual 50, 3) := by decide +kernel
theorem dX5_isTrue_73 : decode cX5_isTrue 73 = .ok (.iload 4, 2) := by decide +kernel
theorem dX5_isTrue_75 : decode cX5_isTrue 75 = .ok (.if_icmp .ne 7, 3) := by decide +kernel
theorem dX5_isTrue_78 : decode cX5_isTrue 78 = .ok (.iconst 1, 1) := by decide +kernel
theorem dX5_isTrue_79 : decode cX5_isTrue 79 = .ok (.goto 4, 3) := by decide +kernel
theorem dX5_isTrue_82 : decode cX5_isTrue 82 = .ok (.iconst 0, 1) := by decide +kernel
theorem dX5_isTrue_83 : decode cX5_isTrue 83 = .ok (.istore_n 3, 1) := by decide +kernel
theorem dX5_isTrue_84 : decode cX5_isTrue 84 = .ok (.iload_n 2, 1) := by decide +kernel
theorem dX5_isTrue_85 : decode cX5_isTrue 85 = .ok (.iload 5, 2) := by decide +kernel
theorem dX5_isTrue_87 : decode cX5_isTrue 87 = .ok (.aload_n 0, 1) := by decide +kernel
theorem dX5_isTrue_88 : decode cX5_isTrue 88 = .ok (.getfield 13, 3) := by decide +kernel
theorem dX5_isTrue_91 : decode cX5_isTrue 91 = .ok (.sipush 201, 3) := by decide +kernel
theorem dX5_isTrue_94 : decode cX5_isTrue 94 = .ok (.iload_n 1, 1) := by decide +kernel
theorem dX5_isTrue_95 : decode cX5_isTrue 95 = .ok (.imul, 1) := by decide +kernel
theorem dX5_isTrue_96 : decode cX5_isTrue 96 = .ok (.iload 4, 2) := by decide +kernel
theorem dX5_isTrue_98 : decode cX5_isTrue 98 = .ok (.iadd, 1) := by decide +kernel
theorem dX5_isTrue_99 : decode cX5_isTrue 99 = .ok (.iaload, 1) := by decide +kernel
theorem dX5_isTrue_100 : decode cX5_isTrue 100 = .ok (.ixor, 1) := by decide +kernel
theorem dX5_isTrue_101 : decode cX5_isTrue 101 = .ok (.iadd, 1) := by decide +kernel
theorem dX5_isTrue_102 : decode cX5_isTrue 102 = .ok (.istore_n 2, 1) := by decide +kernel
theorem dX5_isTrue_103 : decode cX5_isTrue 103 = .ok (.iinc 4 (-1), 3) := by decide +kernel
theorem dX5_isTrue_106 : decode cX5_isTrue 106 = .ok (.goto (-64), 3) := by decide +kernel
theorem dX5_isTrue_109 : decode cX5_isTrue 109 = .ok (.iconst 0, 1) := by decide +kernel
theorem dX5_isTrue_110 : decode cX5_isTrue 110 = .ok (.istore 4, 2) := by decide +kernel
theorem dX5_isTrue_112 : decode cX5_isTrue 112 = .ok (.iconst 0, 1) := by decide +kernel
theorem dX5_isTrue_113 : decode cX5_isTrue 113 = .ok (.istore 5, 2) := by decide +kernel
theorem dX5_isTrue_115 : decode cX5_isTrue 115 = .ok (.iload 5, 2) := by decide +kernel
theorem dX5_isTrue_117 : decode cX5_isTrue 117 = .ok (.aload_n 0, 1) := by decide +kernel
theorem dX5_isTrue_118 : decode cX5_isTrue 118 = .ok (.getfield 16, 3) := by decide +kernel
theorem dX5_isTrue_121 : decode cX5_isTrue 121 = .ok (.iload_n 1, 1) := by decide +kernel
theorem dX5_isTrue_122 : decode cX5_isTrue 122 = .ok (.iaload, 1) := by decide +kernel
theorem dX5_isTrue_123 : decode cX5_isTrue 123 = .ok (.if_icmp .ge 41, 3) := by decide +kernel
theorem dX5_isTrue_126 : decode cX5_isTrue 126 = .ok (.iload 4, 2) := by decide +kernel
theorem dX5_isTrue_128 : decode cX5_isTrue 128 = .ok (.aload_n 0, 1) := by decide +kernel
theorem dX5_isTrue_129 : decode cX5_isTrue 129 = .ok (.getfield 7, 3) := by decide +kernel
theorem dX5_isTrue_132 : decode cX5_isTrue 132 = .ok (.sipush 201, 3) := by decide +kernel
theorem dX5_isTrue_135 : decode cX5_isTrue 135 = .ok (.iload_n 1, 1) := by decide +kernel
theorem dX5_isTrue_136 : decode cX5_isTrue 136 = .ok (.imul, 1) := by decide +kernel
theorem dX5_isTrue_137 : decode cX5_isTrue 137 = .ok (.iload 5, 2) := by decide +kernel
theorem dX5_isTrue_139 : decode cX5_isTrue 139 = .ok (.iadd, 1) := by decide +kernel
theorem dX5_isTrue_140 : decode cX5_isTrue 140 = .ok (.iaload, 1) := by decide +kernel
theorem dX5_isTrue_141 : decode cX5_isTrue 141 = .ok (.aload_n 0, 1) := by decide +kernel
theorem dX5_isTrue_142 : decode cX5_isTrue 142 = .ok (.getfield 13, 3) := by decide +kernel
theorem dX5_isTrue_145 : decode cX5_isTrue 145 = .ok (.sipush 201, 3) := by decide +kernel
theorem dX5_isTrue_148 : decode cX5_isTrue 148 = .ok (.iload_n 1, 1) := by decide +kernel
theorem dX5_isTrue_149 : decode cX5_isTrue 149 = .ok (.imul, 1) := by decide +kernel
theorem dX5_isTrue_150 : decode cX5_isTrue 150 = .ok (.iload 5, 2) := by decide +kernel
theorem dX5_isTrue_152 : decode cX5_isTrue 152 = .ok (.iadd, 1) := by decide +kernel
theorem dX5_isTrue_153 : decode cX5_isTrue 153 = .ok (.iaload, 1) := by decide +kernel
theorem dX5_isTrue_154 : decode cX5_isTrue 154 = .ok (.ixor, 1) := by decide +kernel
end
section
theorem dX5_isTrue_155 : decode cX5_isTrue 155 = .ok (.iadd, 1) := by decide +kernel
theorem dX5_isTrue_156 : decode cX5_isTrue 156 = .ok (.istore 4, 2) := by decide +kernel
theorem dX5_isTrue_158 : decode cX5_isTrue 158 = .ok (.iinc 5 1, 3) := by decide +kernel
theorem dX5_isTrue_161 : decode cX5_isTrue 161 = .ok (.goto (-46), 3) := by decide +kernel
theorem dX5_isTrue_164 : decode cX5_isTrue 164 = .ok (.iload_n 3, 1) := by decide +kernel
theorem dX5_isTrue_165 : decode cX5_isTrue 165 = .ok (.ifCond .eq 13, 3) := by decide +kernel
theorem dX5_isTrue_168 : decode cX5_isTrue 168 = .ok (.iload_n 2, 1) := by decide +kernel
theorem dX5_isTrue_169 : decode cX5_isTrue 169 = .ok (.iload 4, 2) := by decide +kernel
theorem dX5_isTrue_171 : decode cX5_isTrue 171 = .ok (.if_icmp .ne 7, 3) := by decide +kernel
theorem dX5_isTrue_174 : decode cX5_isTrue 174 = .ok (.iconst 1, 1) := by decide +kernel
theorem dX5_isTrue_175 : decode cX5_isTrue 175 = .ok (.goto 4, 3) := by decide +kernel
theorem dX5_isTrue_178 : decode cX5_isTrue 178 = .ok (.iconst 0, 1) := by decide +kernel
theorem dX5_isTrue_179 : decode cX5_isTrue 179 = .ok (.ireturn, 1) := by decide +kernel
theorem dX5_errors_0 : decode cX5_errors 0 = .ok (.iconst 0, 1) := by decide +kernel
theorem dX5_errors_1 : decode cX5_errors 1 = .ok (.istore_n 1, 1) := by decide +kernel
theorem dX5_errors_2 : decode cX5_errors 2 = .ok (.iconst 0, 1) := by decide +kernel
theorem dX5_errors_3 : decode cX5_errors 3 = .ok (.istore_n 2, 1) := by decide +kernel
theorem dX5_errors_4 : decode cX5_errors 4 = .ok (.iload_n 2, 1) := by decide +kernel
theorem dX5_errors_5 : decode cX5_errors 5 = .ok (.iconst 4, 1) := by decide +kernel
theorem dX5_errors_6 : decode cX5_errors 6 = .ok (.if_icmp .ge 25, 3) := by decide +kernel
theorem dX5_errors_9 : decode cX5_errors 9 = .ok (.iload_n 1, 1) := by decide +kernel
theorem dX5_errors_10 : decode cX5_errors 10 = .ok (.aload_n 0, 1) := by decide +kernel
theorem dX5_errors_11 : decode cX5_errors 11 = .ok (.iload_n 2, 1) := by decide +kernel
theorem dX5_errors_12 : decode cX5_errors 12 = .ok (.invokevirtual 123, 3) := by decide +kernel
theorem dX5_errors_15 : decode cX5_errors 15 = .ok (.ifCond .eq 7, 3) := by decide +kernel
theorem dX5_errors_18 : decode cX5_errors 18 = .ok (.iconst 0, 1) := by decide +kernel
theorem dX5_errors_19 : decode cX5_errors 19 = .ok (.goto 4, 3) := by decide +kernel
theorem dX5_errors_22 : decode cX5_errors 22 = .ok (.iconst 1, 1) := by decide +kernel
theorem dX5_errors_23 : decode cX5_errors 23 = .ok (.iadd, 1) := by decide +kernel
theorem dX5_errors_24 : decode cX5_errors 24 = .ok (.istore_n 1, 1) := by decide +kernel
theorem dX5_errors_25 : decode cX5_errors 25 = .ok (.iinc 2 1, 3) := by decide +kernel
theorem dX5_errors_28 : decode cX5_errors 28 = .ok (.goto (-24), 3) := by decide +kernel
theorem dX5_errors_31 : decode cX5_errors 31 = .ok (.aload_n 0, 1) := by decide +kernel
theorem dX5_errors_32 : decode cX5_errors 32 = .ok (.iload_n 1, 1) := by decide +kernel
theorem dX5_errors_33 : decode cX5_errors 33 = .ok (.invokevirtual 65, 3) := by decide +kernel
theorem dX5_errors_36 : decode cX5_errors 36 = .ok (.ireturn, 1) := by decide +kernel
theorem dJ9_abs_067f4_0 : decode cJ9_abs_067f4 0 = .ok (.lload_n 0, 1) := by decide +kernel
theorem dJ9_abs_067f4_1 : decode cJ9_abs_067f4 1 = .ok (.lconst 0, 1) := by decide +kernel
theorem dJ9_abs_067f4_2 : decode cJ9_abs_067f4 2 = .ok (.lcmp, 1) := by decide +kernel
theorem dJ9_abs_067f4_3 : decode cJ9_abs_067f4 3 = .ok (.ifCond .ge 8, 3) := by decide +kernel
theorem dJ9_abs_067f4_6 : decode cJ9_abs_067f4 6 = .ok (.lload_n 0, 1) := by decide +kernel
theorem dJ9_abs_067f4_7 : decode cJ9_abs_067f4 7 = .ok (.lneg, 1) := by decide +kernel
theorem dJ9_abs_067f4_8 : decode cJ9_abs_067f4 8 = .ok (.goto 4, 3) := by decide +kernel
theorem dJ9_abs_067f4_11 : decode cJ9_abs_067f4 11 = .ok (.lload_n 0, 1) := by decide +kernel
theorem dJ9_abs_067f4_12 : decode cJ9_abs_067f4 12 = .ok (.lreturn, 1) := by decide +kernel
theorem dL_rebind_0 : decode cL_rebind 0 = .ok (.aload_n 2, 1) := by decide +kernel
theorem dL_rebind_1 : decode cL_rebind 1 = .ok (.iconst 0, 1) := by decide +kernel
theorem dL_rebind_2 : decode cL_rebind 2 = .ok (.aload_n 0, 1) := by decide +kernel
theorem dL_rebind_3 : decode cL_rebind 3 = .ok (.iload_n 1, 1) := by decide +kernel
theorem dL_rebind_4 : decode cL_rebind 4 = .ok (.invokevirtual 7, 3) := by decide +kernel
theorem dL_rebind_7 : decode cL_rebind 7 = .ok (.i2l, 1) := by decide +kernel
theorem dL_rebind_8 : decode cL_rebind 8 = .ok (.lastore, 1) := by decide +kernel
theorem dL_rebind_9 : decode cL_rebind 9 = .ok (.goto 6, 3) := by decide +kernel
theorem dL_rebind_12 : decode cL_rebind 12 = .ok (.astore_n 3, 1) := by decide +kernel
theorem dL_rebind_13 : decode cL_rebind 13 = .ok (.iconst 1, 1) := by decide +kernel
theorem dL_rebind_14 : decode cL_rebind 14 = .ok (.ireturn, 1) := by decide +kernel
theorem dL_rebind_15 : decode cL_rebind 15 = .ok (.iconst 0, 1) := by decide +kernel
theorem dL_rebind_16 : decode cL_rebind 16 = .ok (.ireturn, 1) := by decide +kernel
theorem dL_put_0 : decode cL_put 0 = .ok (.aload 4, 2) := by decide +kernel
theorem dL_put_2 : decode cL_put 2 = .ok (.iconst 0, 1) := by decide +kernel
theorem dL_put_3 : decode cL_put 3 = .ok (.aload_n 0, 1) := by decide +kernel
theorem dL_put_4 : decode cL_put 4 = .ok (.iload_n 1, 1) := by decide +kernel
theorem dL_put_5 : decode cL_put 5 = .ok (.iload_n 2, 1) := by decide +kernel
theorem dL_put_6 : decode cL_put 6 = .ok (.iload_n 3, 1) := by decide +kernel
theorem dL_put_7 : decode cL_put 7 = .ok (.invokevirtual 15, 3) := by decide +kernel
theorem dL_put_10 : decode cL_put 10 = .ok (.ifCond .eq 7, 3) := by decide +kernel
theorem dL_put_13 : decode cL_put 13 = .ok (.lconst 1, 1) := by decide +kernel
theorem dL_put_14 : decode cL_put 14 = .ok (.goto 4, 3) := by decide +kernel
theorem dL_put_17 : decode cL_put 17 = .ok (.lconst 0, 1) := by decide +kernel
theorem dL_put_18 : decode cL_put 18 = .ok (.lastore, 1) := by decide +kernel
theorem dL_put_19 : decode cL_put 19 = .ok (.goto 15, 3) := by decide +kernel
theorem dL_put_22 : decode cL_put 22 = .ok (.astore 5, 2) := by decide +kernel
theorem dL_put_24 : decode cL_put 24 = .ok (.iconst 1, 1) := by decide +kernel
theorem dL_put_25 : decode cL_put 25 = .ok (.ireturn, 1) := by decide +kernel
theorem dL_put_26 : decode cL_put 26 = .ok (.astore 5, 2) := by decide +kernel
theorem dL_put_28 : decode cL_put 28 = .ok (.iconst 2, 1) := by decide +kernel
theorem dL_put_29 : decode cL_put 29 = .ok (.ireturn, 1) := by decide +kernel
theorem dL_put_30 : decode cL_put 30 = .ok (.astore 5, 2) := by decide +kernel
theorem dL_put_32 : decode cL_put 32 = .ok (.iconst 3, 1) := by decide +kernel
theorem dL_put_33 : decode cL_put 33 = .ok (.ireturn, 1) := by decide +kernel
theorem dL_put_34 : decode cL_put 34 = .ok (.iconst 0, 1) := by decide +kernel
theorem dL_put_35 : decode cL_put 35 = .ok (.ireturn, 1) := by decide +kernel
theorem dL_putNew_0 : decode cL_putNew 0 = .ok (.aload 4, 2) := by decide +kernel
theorem dL_putNew_2 : decode cL_putNew 2 = .ok (.iconst 0, 1) := by decide +kernel
theorem dL_putNew_3 : decode cL_putNew 3 = .ok (.aload_n 0, 1) := by decide +kernel
theorem dL_putNew_4 : decode cL_putNew 4 = .ok (.iload_n 1, 1) := by decide +kernel
theorem dL_putNew_5 : decode cL_putNew 5 = .ok (.iload_n 2, 1) := by decide +kernel
theorem dL_putNew_6 : decode cL_putNew 6 = .ok (.iload_n 3, 1) := by decide +kernel
theorem dL_putNew_7 : decode cL_putNew 7 = .ok (.invokevirtual 23, 3) := by decide +kernel
theorem dL_putNew_10 : decode cL_putNew 10 = .ok (.i2l, 1) := by decide +kernel
theorem dL_putNew_11 : decode cL_putNew 11 = .ok (.lastore, 1) := by decide +kernel
theorem dL_putNew_12 : decode cL_putNew 12 = .ok (.goto 15, 3) := by decide +kernel
theorem dL_putNew_15 : decode cL_putNew 15 = .ok (.astore 5, 2) := by decide +kernel
theorem dL_putNew_17 : decode cL_putNew 17 = .ok (.iconst 1, 1) := by decide +kernel
theorem dL_putNew_18 : decode cL_putNew 18 = .ok (.ireturn, 1) := by decide +kernel
theorem dL_putNew_19 : decode cL_putNew 19 = .ok (.astore 5, 2) := by decide +kernel
theorem dL_putNew_21 : decode cL_putNew 21 = .ok (.iconst 2, 1) := by decide +kernel
theorem dL_putNew_22 : decode cL_putNew 22 = .ok (.ireturn, 1) := by decide +kernel
theorem dL_putNew_23 : decode cL_putNew 23 = .ok (.astore 5, 2) := by decide +kernel
theorem dL_putNew_25 : decode cL_putNew 25 = .ok (.iconst 3, 1) := by decide +kernel
theorem dL_putNew_26 : decode cL_putNew 26 = .ok (.ireturn, 1) := by decide +kernel
theorem dL_putNew_27 : decode cL_putNew 27 = .ok (.iconst 0, 1) := by decide +kernel
theorem dL_putNew_28 : decode cL_putNew 28 = .ok (.ireturn, 1) := by decide +kernel
theorem dL_add_0 : decode cL_add 0 = .ok (.aload 4, 2) := by decide +kernel
theorem dL_add_2 : decode cL_add 2 = .ok (.iconst 0, 1) := by decide +kernel
theorem dL_add_3 : decode cL_add 3 = .ok (.aload_n 0, 1) := by decide +kernel
theorem dL_add_4 : decode cL_add 4 = .ok (.iload_n 1, 1) := by decide +kernel
theorem dL_add_5 : decode cL_add 5 = .ok (.iload_n 2, 1) := by decide +kernel
theorem dL_add_6 : decode cL_add 6 = .ok (.iload_n 3, 1) := by decide +kernel
theorem dL_add_7 : decode cL_add 7 = .ok (.invokevirtual 27, 3) := by decide +kernel
theorem dL_add_10 : decode cL_add 10 = .ok (.i2l, 1) := by decide +kernel
theorem dL_add_11 : decode cL_add 11 = .ok (.lastore, 1) := by decide +kernel
theorem dL_add_12 : decode cL_add 12 = .ok (.goto 15, 3) := by decide +kernel
theorem dL_add_15 : decode cL_add 15 = .ok (.astore 5, 2) := by decide +kernel
theorem dL_add_17 : decode cL_add 17 = .ok (.iconst 1, 1) := by decide +kernel
theorem dL_add_18 : decode cL_add 18 = .ok (.ireturn, 1) := by decide +kernel
theorem dL_add_19 : decode cL_add 19 = .ok (.astore 5, 2) := by decide +kernel
theorem dL_add_21 : decode cL_add 21 = .ok (.iconst 2, 1) := by decide +kernel
theorem dL_add_22 : decode cL_add 22 = .ok (.ireturn, 1) := by decide +kernel
theorem dL_add_23 : decode cL_add 23 = .ok (.astore 5, 2) := by decide +kernel
theorem dL_add_25 : decode cL_add 25 = .ok (.iconst 3, 1) := by decide +kernel
theorem dL_add_26 : decode cL_add 26 = .ok (.ireturn, 1) := by decide +kernel
theorem dL_add_27 : decode cL_add 27 = .ok (.iconst 0, 1) := by decide +kernel
theorem dL_add_28 : decode cL_add 28 = .ok (.ireturn, 1) := by decide +kernel
theorem dL_halve_0 : decode cL_halve 0 = .ok (.aload_n 3, 1) := by decide +kernel
theorem dL_halve_1 : decode cL_halve 1 = .ok (.iconst 0, 1) := by decide +kernel
theorem dL_halve_2 : decode cL_halve 2 = .ok (.aload_n 0, 1) := by decide +kernel
theorem dL_halve_3 : decode cL_halve 3 = .ok (.iload_n 1, 1) := by decide +kernel
theorem dL_halve_4 : decode cL_halve 4 = .ok (.iload_n 2, 1) := by decide +kernel
theorem dL_halve_5 : decode cL_halve 5 = .ok (.invokevirtual 30, 3) := by decide +kernel
theorem dL_halve_8 : decode cL_halve 8 = .ok (.ifCond .eq 7, 3) := by decide +kernel
theorem dL_halve_11 : decode cL_halve 11 = .ok (.lconst 1, 1) := by decide +kernel
theorem dL_halve_12 : decode cL_halve 12 = .ok (.goto 4, 3) := by decide +kernel
theorem dL_halve_15 : decode cL_halve 15 = .ok (.lconst 0, 1) := by decide +kernel
theorem dL_halve_16 : decode cL_halve 16 = .ok (.lastore, 1) := by decide +kernel
theorem dL_halve_17 : decode cL_halve 17 = .ok (.goto 11, 3) := by decide +kernel
theorem dL_halve_20 : decode cL_halve 20 = .ok (.astore 4, 2) := by decide +kernel
theorem dL_halve_22 : decode cL_halve 22 = .ok (.iconst 1, 1) := by decide +kernel
theorem dL_halve_23 : decode cL_halve 23 = .ok (.ireturn, 1) := by decide +kernel
theorem dL_halve_24 : decode cL_halve 24 = .ok (.astore 4, 2) := by decide +kernel
theorem dL_halve_26 : decode cL_halve 26 = .ok (.iconst 2, 1) := by decide +kernel
theorem dL_halve_27 : decode cL_halve 27 = .ok (.ireturn, 1) := by decide +kernel
theorem dL_halve_28 : decode cL_halve 28 = .ok (.iconst 0, 1) := by decide +kernel
theorem dL_halve_29 : decode cL_halve 29 = .ok (.ireturn, 1) := by decide +kernel
theorem dL_addToAll_0 : decode cL_addToAll 0 = .ok (.aload_n 3, 1) := by decide +kernel
theorem dL_addToAll_1 : decode cL_addToAll 1 = .ok (.iconst 0, 1) := by decide +kernel
theorem dL_addToAll_2 : decode cL_addToAll 2 = .ok (.aload_n 0, 1) := by decide +kernel
theorem dL_addToAll_3 : decode cL_addToAll 3 = .ok (.iload_n 1, 1) := by decide +kernel
theorem dL_addToAll_4 : decode cL_addToAll 4 = .ok (.iload_n 2, 1) := by decide +kernel
theorem dL_addToAll_5 : decode cL_addToAll 5 = .ok (.invokevirtual 34, 3) := by decide +kernel
theorem dL_addToAll_8 : decode cL_addToAll 8 = .ok (.i2l, 1) := by decide +kernel
theorem dL_addToAll_9 : decode cL_addToAll 9 = .ok (.lastore, 1) := by decide +kernel
theorem dL_addToAll_10 : decode cL_addToAll 10 = .ok (.goto 11, 3) := by decide +kernel
theorem dL_addToAll_13 : decode cL_addToAll 13 = .ok (.astore 4, 2) := by decide +kernel
theorem dL_addToAll_15 : decode cL_addToAll 15 = .ok (.iconst 1, 1) := by decide +kernel
theorem dL_addToAll_16 : decode cL_addToAll 16 = .ok (.ireturn, 1) := by decide +kernel
theorem dL_addToAll_17 : decode cL_addToAll 17 = .ok (.astore 4, 2) := by decide +kernel
theorem dL_addToAll_19 : decode cL_addToAll 19 = .ok (.iconst 2, 1) := by decide +kernel
theorem dL_addToAll_20 : decode cL_addToAll 20 = .ok (.ireturn, 1) := by decide +kernel
theorem dL_addToAll_21 : decode cL_addToAll 21 = .ok (.iconst 0, 1) := by decide +kernel
theorem dL_addToAll_22 : decode cL_addToAll 22 = .ok (.ireturn, 1) := by decide +kernel
theorem dL_replace_0 : decode cL_replace 0 = .ok (.aload 4, 2) := by decide +kernel
theorem dL_replace_2 : decode cL_replace 2 = .ok (.iconst 0, 1) := by decide +kernel
theorem dL_replace_3 : decode cL_replace 3 = .ok (.aload_n 0, 1) := by decide +kernel
theorem dL_replace_4 : decode cL_replace 4 = .ok (.iload_n 1, 1) := by decide +kernel
theorem dL_replace_5 : decode cL_replace 5 = .ok (.iload_n 2, 1) := by decide +kernel
theorem dL_replace_6 : decode cL_replace 6 = .ok (.iload_n 3, 1) := by decide +kernel
theorem dL_replace_7 : decode cL_replace 7 = .ok (.invokevirtual 38, 3) := by decide +kernel
theorem dL_replace_10 : decode cL_replace 10 = .ok (.ifCond .eq 7, 3) := by decide +kernel
theorem dL_replace_13 : decode cL_replace 13 = .ok (.lconst 1, 1) := by decide +kernel
theorem dL_replace_14 : decode cL_replace 14 = .ok (.goto 4, 3) := by decide +kernel
theorem dL_replace_17 : decode cL_replace 17 = .ok (.lconst 0, 1) := by decide +kernel
theorem dL_replace_18 : decode cL_replace 18 = .ok (.lastore, 1) := by decide +kernel
theorem dL_replace_19 : decode cL_replace 19 = .ok (.goto 11, 3) := by decide +kernel
theorem dL_replace_22 : decode cL_replace 22 = .ok (.astore 5, 2) := by decide +kernel
theorem dL_replace_24 : decode cL_replace 24 = .ok (.iconst 1, 1) := by decide +kernel
theorem dL_replace_25 : decode cL_replace 25 = .ok (.ireturn, 1) := by decide +kernel
theorem dL_replace_26 : decode cL_replace 26 = .ok (.astore 5, 2) := by decide +kernel
theorem dL_replace_28 : decode cL_replace 28 = .ok (.iconst 2, 1) := by decide +kernel
theorem dL_replace_29 : decode cL_replace 29 = .ok (.ireturn, 1) := by decide +kernel
theorem dL_replace_30 : decode cL_replace 30 = .ok (.iconst 0, 1) := by decide +kernel
theorem dL_replace_31 : decode cL_replace 31 = .ok (.ireturn, 1) := by decide +kernel
theorem dL_remove_0 : decode cL_remove 0 = .ok (.aload_n 3, 1) := by decide +kernel
theorem dL_remove_1 : decode cL_remove 1 = .ok (.iconst 0, 1) := by decide +kernel
theorem dL_remove_2 : decode cL_remove 2 = .ok (.aload_n 0, 1) := by decide +kernel
theorem dL_remove_3 : decode cL_remove 3 = .ok (.iload_n 1, 1) := by decide +kernel
theorem dL_remove_4 : decode cL_remove 4 = .ok (.iload_n 2, 1) := by decide +kernel
theorem dL_remove_5 : decode cL_remove 5 = .ok (.invokevirtual 41, 3) := by decide +kernel
theorem dL_remove_8 : decode cL_remove 8 = .ok (.i2l, 1) := by decide +kernel
theorem dL_remove_9 : decode cL_remove 9 = .ok (.lastore, 1) := by decide +kernel
theorem dL_remove_10 : decode cL_remove 10 = .ok (.goto 15, 3) := by decide +kernel
theorem dL_remove_13 : decode cL_remove 13 = .ok (.astore 4, 2) := by decide +kernel
theorem dL_remove_15 : decode cL_remove 15 = .ok (.iconst 1, 1) := by decide +kernel
theorem dL_remove_16 : decode cL_remove 16 = .ok (.ireturn, 1) := by decide +kernel
theorem dL_remove_17 : decode cL_remove 17 = .ok (.astore 4, 2) := by decide +kernel
theorem dL_remove_19 : decode cL_remove 19 = .ok (.iconst 2, 1) := by decide +kernel
theorem dL_remove_20 : decode cL_remove 20 = .ok (.ireturn, 1) := by decide +kernel
theorem dL_remove_21 : decode cL_remove 21 = .ok (.astore 4, 2) := by decide +kernel
theorem dL_remove_23 : decode cL_remove 23 = .ok (.iconst 3, 1) := by decide +kernel
theorem dL_remove_24 : decode cL_remove 24 = .ok (.ireturn, 1) := by decide +kernel
theorem dL_remove_25 : decode cL_remove 25 = .ok (.iconst 0, 1) := by decide +kernel
theorem dL_remove_26 : decode cL_remove 26 = .ok (.ireturn, 1) := by decide +kernel
theorem dL_removePair_0 : decode cL_removePair 0 = .ok (.aload 4, 2) := by decide +kernel
theorem dL_removePair_2 : decode cL_removePair 2 = .ok (.iconst 0, 1) := by decide +kernel
theorem dL_removePair_3 : decode cL_removePair 3 = .ok (.aload_n 0, 1) := by decide +kernel
theorem dL_removePair_4 : decode cL_removePair 4 = .ok (.iload_n 1, 1) := by decide +kernel
theorem dL_removePair_5 : decode cL_removePair 5 = .ok (.iload_n 2, 1) := by decide +kernel
theorem dL_removePair_6 : decode cL_removePair 6 = .ok (.iload_n 3, 1) := by decide +kernel
theorem dL_removePair_7 : decode cL_removePair 7 = .ok (.invokevirtual 46, 3) := by decide +kernel
theorem dL_removePair_10 : decode cL_removePair 10 = .ok (.ifCond .eq 7, 3) := by decide +kernel
theorem dL_removePair_13 : decode cL_removePair 13 = .ok (.lconst 1, 1) := by decide +kernel
theorem dL_removePair_14 : decode cL_removePair 14 = .ok (.goto 4, 3) := by decide +kernel
theorem dL_removePair_17 : decode cL_removePair 17 = .ok (.lconst 0, 1) := by decide +kernel
theorem dL_removePair_18 : decode cL_removePair 18 = .ok (.lastore, 1) := by decide +kernel
theorem dL_removePair_19 : decode cL_removePair 19 = .ok (.goto 11, 3) := by decide +kernel
theorem dL_removePair_22 : decode cL_removePair 22 = .ok (.astore 5, 2) := by decide +kernel
theorem dL_removePair_24 : decode cL_removePair 24 = .ok (.iconst 1, 1) := by decide +kernel
theorem dL_removePair_25 : decode cL_removePair 25 = .ok (.ireturn, 1) := by decide +kernel
theorem dL_removePair_26 : decode cL_removePair 26 = .ok (.astore 5, 2) := by decide +kernel
theorem dL_removePair_28 : decode cL_removePair 28 = .ok (.iconst 2, 1) := by decide +kernel
theorem dL_removePair_29 : decode cL_removePair 29 = .ok (.ireturn, 1) := by decide +kernel
theorem dL_removePair_30 : decode cL_removePair 30 = .ok (.iconst 0, 1) := by decide +kernel
theorem dL_removePair_31 : decode cL_removePair 31 = .ok (.ireturn, 1) := by decide +kernel
theorem dL_fill_0 : decode cL_fill 0 = .ok (.aload 5, 2) := by decide +kernel
theorem dL_fill_2 : decode cL_fill 2 = .ok (.iconst 0, 1) := by decide +kernel
theorem dL_fill_3 : decode cL_fill 3 = .ok (.aload_n 0, 1) := by decide +kernel
theorem dL_fill_4 : decode cL_fill 4 = .ok (.iload_n 1, 1) := by decide +kernel
theorem dL_fill_5 : decode cL_fill 5 = .ok (.iload_n 2, 1) := by decide +kernel
theorem dL_fill_6 : decode cL_fill 6 = .ok (.iload_n 3, 1) := by decide +kernel
theorem dL_fill_7 : decode cL_fill 7 = .ok (.iload 4, 2) := by decide +kernel
theorem dL_fill_9 : decode cL_fill 9 = .ok (.invokevirtual 49, 3) := by decide +kernel
theorem dL_fill_12 : decode cL_fill 12 = .ok (.i2l, 1) := by decide +kernel
theorem dL_fill_13 : decode cL_fill 13 = .ok (.lastore, 1) := by decide +kernel
theorem dL_fill_14 : decode cL_fill 14 = .ok (.goto 15, 3) := by decide +kernel
theorem dL_fill_17 : decode cL_fill 17 = .ok (.astore 6, 2) := by decide +kernel
theorem dL_fill_19 : decode cL_fill 19 = .ok (.iconst 1, 1) := by decide +kernel
theorem dL_fill_20 : decode cL_fill 20 = .ok (.ireturn, 1) := by decide +kernel
theorem dL_fill_21 : decode cL_fill 21 = .ok (.astore 6, 2) := by decide +kernel
theorem dL_fill_23 : decode cL_fill 23 = .ok (.iconst 2, 1) := by decide +kernel
theorem dL_fill_24 : decode cL_fill 24 = .ok (.ireturn, 1) := by decide +kernel
theorem dL_fill_25 : decode cL_fill 25 = .ok (.astore 6, 2) := by decide +kernel
theorem dL_fill_27 : decode cL_fill 27 = .ok (.iconst 3, 1) := by decide +kernel
theorem dL_fill_28 : decode cL_fill 28 = .ok (.ireturn, 1) := by decide +kernel
theorem dL_fill_29 : decode cL_fill 29 = .ok (.iconst 0, 1) := by decide +kernel
theorem dL_fill_30 : decode cL_fill 30 = .ok (.ireturn, 1) := by decide +kernel
theorem dL_pour_0 : decode cL_pour 0 = .ok (.aload_n 3, 1) := by decide +kernel
theorem dL_pour_1 : decode cL_pour 1 = .ok (.iconst 0, 1) := by decide +kernel
theorem dL_pour_2 : decode cL_pour 2 = .ok (.aload_n 0, 1) := by decide +kernel
theorem dL_pour_3 : decode cL_pour 3 = .ok (.iload_n 1, 1) := by decide +kernel
theorem dL_pour_4 : decode cL_pour 4 = .ok (.iload_n 2, 1) := by decide +kernel
theorem dL_pour_5 : decode cL_pour 5 = .ok (.invokevirtual 53, 3) := by decide +kernel
theorem dL_pour_8 : decode cL_pour 8 = .ok (.i2l, 1) := by decide +kernel
theorem dL_pour_9 : decode cL_pour 9 = .ok (.lastore, 1) := by decide +kernel
theorem dL_pour_10 : decode cL_pour 10 = .ok (.goto 15, 3) := by decide +kernel
theorem dL_pour_13 : decode cL_pour 13 = .ok (.astore 4, 2) := by decide +kernel
theorem dL_pour_15 : decode cL_pour 15 = .ok (.iconst 1, 1) := by decide +kernel
theorem dL_pour_16 : decode cL_pour 16 = .ok (.ireturn, 1) := by decide +kernel
theorem dL_pour_17 : decode cL_pour 17 = .ok (.astore 4, 2) := by decide +kernel
theorem dL_pour_19 : decode cL_pour 19 = .ok (.iconst 2, 1) := by decide +kernel
theorem dL_pour_20 : decode cL_pour 20 = .ok (.ireturn, 1) := by decide +kernel
theorem dL_pour_21 : decode cL_pour 21 = .ok (.astore 4, 2) := by decide +kernel
theorem dL_pour_23 : decode cL_pour 23 = .ok (.iconst 3, 1) := by decide +kernel
theorem dL_pour_24 : decode cL_pour 24 = .ok (.ireturn, 1) := by decide +kernel
theorem dL_pour_25 : decode cL_pour 25 = .ok (.iconst 0, 1) := by decide +kernel
theorem dL_pour_26 : decode cL_pour 26 = .ok (.ireturn, 1) := by decide +kernel
theorem dL_copy_0 : decode cL_copy 0 = .ok (.aload_n 3, 1) := by decide +kernel
theorem dL_copy_1 : decode cL_copy 1 = .ok (.iconst 0, 1) := by decide +kernel
theorem dL_copy_2 : decode cL_copy 2 = .ok (.aload_n 0, 1) := by decide +kernel
theorem dL_copy_3 : decode cL_copy 3 = .ok (.iload_n 1, 1) := by decide +kernel
theorem dL_copy_4 : decode cL_copy 4 = .ok (.iload_n 2, 1) := by decide +kernel
theorem dL_copy_5 : decode cL_copy 5 = .ok (.invokevirtual 56, 3) := by decide +kernel
theorem dL_copy_8 : decode cL_copy 8 = .ok (.i2l, 1) := by decide +kernel
theorem dL_copy_9 : decode cL_copy 9 = .ok (.lastore, 1) := by decide +kernel
theorem dL_copy_10 : decode cL_copy 10 = .ok (.goto 11, 3) := by decide +kernel
theorem dL_copy_13 : decode cL_copy 13 = .ok (.astore 4, 2) := by decide +kernel
theorem dL_copy_15 : decode cL_copy 15 = .ok (.iconst 1, 1) := by decide +kernel
theorem dL_copy_16 : decode cL_copy 16 = .ok (.ireturn, 1) := by decide +kernel
theorem dL_copy_17 : decode cL_copy 17 = .ok (.astore 4, 2) := by decide +kernel
theorem dL_copy_19 : decode cL_copy 19 = .ok (.iconst 2, 1) := by decide +kernel
theorem dL_copy_20 : decode cL_copy 20 = .ok (.ireturn, 1) := by decide +kernel
theorem dL_copy_21 : decode cL_copy 21 = .ok (.iconst 0, 1) := by decide +kernel
theorem dL_copy_22 : decode cL_copy 22 = .ok (.ireturn, 1) := by decide +kernel
theorem dL_clear_0 : decode cL_clear 0 = .ok (.aload_n 2, 1) := by decide +kernel
theorem dL_clear_1 : decode cL_clear 1 = .ok (.iconst 0, 1) := by decide +kernel
theorem dL_clear_2 : decode cL_clear 2 = .ok (.aload_n 0, 1) := by decide +kernel
theorem dL_clear_3 : decode cL_clear 3 = .ok (.iload_n 1, 1) := by decide +kernel
theorem dL_clear_4 : decode cL_clear 4 = .ok (.invokevirtual 59, 3) := by decide +kernel
theorem dL_clear_7 : decode cL_clear 7 = .ok (.i2l, 1) := by decide +kernel
theorem dL_clear_8 : decode cL_clear 8 = .ok (.lastore, 1) := by decide +kernel
theorem dL_clear_9 : decode cL_clear 9 = .ok (.goto 9, 3) := by decide +kernel
theorem dL_clear_12 : decode cL_clear 12 = .ok (.astore_n 3, 1) := by decide +kernel
theorem dL_clear_13 : decode cL_clear 13 = .ok (.iconst 1, 1) := by decide +kernel
theorem dL_clear_14 : decode cL_clear 14 = .ok (.ireturn, 1) := by decide +kernel
theorem dL_clear_15 : decode cL_clear 15 = .ok (.astore_n 3, 1) := by decide +kernel
theorem dL_clear_16 : decode cL_clear 16 = .ok (.iconst 2, 1) := by decide +kernel
theorem dL_clear_17 : decode cL_clear 17 = .ok (.ireturn, 1) := by decide +kernel
theorem dL_clear_18 : decode cL_clear 18 = .ok (.iconst 0, 1) := by decide +kernel
theorem dL_clear_19 : decode cL_clear 19 = .ok (.ireturn, 1) := by decide +kernel
theorem dL_offer_0 : decode cL_offer 0 = .ok (.aload_n 2, 1) := by decide +kernel
theorem dL_offer_1 : decode cL_offer 1 = .ok (.iconst 0, 1) := by decide +kernel
theorem dL_offer_2 : decode cL_offer 2 = .ok (.aload_n 0, 1) := by decide +kernel
theorem dL_offer_3 : decode cL_offer 3 = .ok (.iload_n 1, 1) := by decide +kernel
theorem dL_offer_4 : decode cL_offer 4 = .ok (.invokevirtual 62, 3) := by decide +kernel
theorem dL_offer_7 : decode cL_offer 7 = .ok (.ifCond .eq 7, 3) := by decide +kernel
theorem dL_offer_10 : decode cL_offer 10 = .ok (.lconst 1, 1) := by decide +kernel
theorem dL_offer_11 : decode cL_offer 11 = .ok (.goto 4, 3) := by decide +kernel
theorem dL_offer_14 : decode cL_offer 14 = .ok (.lconst 0, 1) := by decide +kernel
theorem dL_offer_15 : decode cL_offer 15 = .ok (.lastore, 1) := by decide +kernel
theorem dL_offer_16 : decode cL_offer 16 = .ok (.goto 6, 3) := by decide +kernel
theorem dL_offer_19 : decode cL_offer 19 = .ok (.astore_n 3, 1) := by decide +kernel
theorem dL_offer_20 : decode cL_offer 20 = .ok (.iconst 1, 1) := by decide +kernel
theorem dL_offer_21 : decode cL_offer 21 = .ok (.ireturn, 1) := by decide +kernel
theorem dL_offer_22 : decode cL_offer 22 = .ok (.iconst 0, 1) := by decide +kernel
theorem dL_offer_23 : decode cL_offer 23 = .ok (.ireturn, 1) := by decide +kernel
theorem dL_poll_0 : decode cL_poll 0 = .ok (.aload_n 1, 1) := by decide +kernel
theorem dL_poll_1 : decode cL_poll 1 = .ok (.iconst 0, 1) := by decide +kernel
theorem dL_poll_2 : decode cL_poll 2 = .ok (.aload_n 0, 1) := by decide +kernel
theorem dL_poll_3 : decode cL_poll 3 = .ok (.invokevirtual 66, 3) := by decide +kernel
theorem dL_poll_6 : decode cL_poll 6 = .ok (.i2l, 1) := by decide +kernel
theorem dL_poll_7 : decode cL_poll 7 = .ok (.lastore, 1) := by decide +kernel
theorem dL_poll_8 : decode cL_poll 8 = .ok (.goto 6, 3) := by decide +kernel
theorem dL_poll_11 : decode cL_poll 11 = .ok (.astore_n 2, 1) := by decide +kernel
theorem dL_poll_12 : decode cL_poll 12 = .ok (.iconst 1, 1) := by decide +kernel
theorem dL_poll_13 : decode cL_poll 13 = .ok (.ireturn, 1) := by decide +kernel
theorem dL_poll_14 : decode cL_poll 14 = .ok (.iconst 0, 1) := by decide +kernel
theorem dL_poll_15 : decode cL_poll 15 = .ok (.ireturn, 1) := by decide +kernel
theorem dL_toEnd_0 : decode cL_toEnd 0 = .ok (.aload_n 2, 1) := by decide +kernel
theorem dL_toEnd_1 : decode cL_toEnd 1 = .ok (.iconst 0, 1) := by decide +kernel
theorem dL_toEnd_2 : decode cL_toEnd 2 = .ok (.aload_n 0, 1) := by decide +kernel
theorem dL_toEnd_3 : decode cL_toEnd 3 = .ok (.iload_n 1, 1) := by decide +kernel
theorem dL_toEnd_4 : decode cL_toEnd 4 = .ok (.invokevirtual 70, 3) := by decide +kernel
theorem dL_toEnd_7 : decode cL_toEnd 7 = .ok (.i2l, 1) := by decide +kernel
theorem dL_toEnd_8 : decode cL_toEnd 8 = .ok (.lastore, 1) := by decide +kernel
theorem dL_toEnd_9 : decode cL_toEnd 9 = .ok (.goto 6, 3) := by decide +kernel
theorem dL_toEnd_12 : decode cL_toEnd 12 = .ok (.astore_n 3, 1) := by decide +kernel
theorem dL_toEnd_13 : decode cL_toEnd 13 = .ok (.iconst 1, 1) := by decide +kernel
theorem dL_toEnd_14 : decode cL_toEnd 14 = .ok (.ireturn, 1) := by decide +kernel
theorem dL_toEnd_15 : decode cL_toEnd 15 = .ok (.iconst 0, 1) := by decide +kernel
theorem dL_toEnd_16 : decode cL_toEnd 16 = .ok (.ireturn, 1) := by decide +kernel
theorem dL_open_0 : decode cL_open 0 = .ok (.aload 4, 2) := by decide +kernel
theorem dL_open_2 : decode cL_open 2 = .ok (.iconst 0, 1) := by decide +kernel
theorem dL_open_3 : decode cL_open 3 = .ok (.aload_n 0, 1) := by decide +kernel
theorem dL_open_4 : decode cL_open 4 = .ok (.iload_n 1, 1) := by decide +kernel
theorem dL_open_5 : decode cL_open 5 = .ok (.iload_n 2, 1) := by decide +kernel
theorem dL_open_6 : decode cL_open 6 = .ok (.iload_n 3, 1) := by decide +kernel
theorem dL_open_7 : decode cL_open 7 = .ok (.invokevirtual 73, 3) := by decide +kernel
theorem dL_open_10 : decode cL_open 10 = .ok (.i2l, 1) := by decide +kernel
theorem dL_open_11 : decode cL_open 11 = .ok (.lastore, 1) := by decide +kernel
theorem dL_open_12 : decode cL_open 12 = .ok (.goto 11, 3) := by decide +kernel
theorem dL_open_15 : decode cL_open 15 = .ok (.astore 5, 2) := by decide +kernel
theorem dL_open_17 : decode cL_open 17 = .ok (.iconst 1, 1) := by decide +kernel
theorem dL_open_18 : decode cL_open 18 = .ok (.ireturn, 1) := by decide +kernel
theorem dL_open_19 : decode cL_open 19 = .ok (.astore 5, 2) := by decide +kernel
theorem dL_open_21 : decode cL_open 21 = .ok (.iconst 2, 1) := by decide +kernel
theorem dL_open_22 : decode cL_open 22 = .ok (.ireturn, 1) := by decide +kernel
theorem dL_open_23 : decode cL_open 23 = .ok (.iconst 0, 1) := by decide +kernel
theorem dL_open_24 : decode cL_open 24 = .ok (.ireturn, 1) := by decide +kernel
theorem dL_hasNext_0 : decode cL_hasNext 0 = .ok (.aload_n 2, 1) := by decide +kernel
theorem dL_hasNext_1 : decode cL_hasNext 1 = .ok (.iconst 0, 1) := by decide +kernel
theorem dL_hasNext_2 : decode cL_hasNext 2 = .ok (.aload_n 0, 1) := by decide +kernel
theorem dL_hasNext_3 : decode cL_hasNext 3 = .ok (.iload_n 1, 1) := by decide +kernel
theorem dL_hasNext_4 : decode cL_hasNext 4 = .ok (.invokevirtual 76, 3) := by decide +kernel
theorem dL_hasNext_7 : decode cL_hasNext 7 = .ok (.ifCond .eq 7, 3) := by decide +kernel
theorem dL_hasNext_10 : decode cL_hasNext 10 = .ok (.lconst 1, 1) := by decide +kernel
theorem dL_hasNext_11 : decode cL_hasNext 11 = .ok (.goto 4, 3) := by decide +kernel
theorem dL_hasNext_14 : decode cL_hasNext 14 = .ok (.lconst 0, 1) := by decide +kernel
theorem dL_hasNext_15 : decode cL_hasNext 15 = .ok (.lastore, 1) := by decide +kernel
theorem dL_hasNext_16 : decode cL_hasNext 16 = .ok (.goto 9, 3) := by decide +kernel
theorem dL_hasNext_19 : decode cL_hasNext 19 = .ok (.astore_n 3, 1) := by decide +kernel
theorem dL_hasNext_20 : decode cL_hasNext 20 = .ok (.iconst 1, 1) := by decide +kernel
theorem dL_hasNext_21 : decode cL_hasNext 21 = .ok (.ireturn, 1) := by decide +kernel
theorem dL_hasNext_22 : decode cL_hasNext 22 = .ok (.astore_n 3, 1) := by decide +kernel
theorem dL_hasNext_23 : decode cL_hasNext 23 = .ok (.iconst 2, 1) := by decide +kernel
theorem dL_hasNext_24 : decode cL_hasNext 24 = .ok (.ireturn, 1) := by decide +kernel
theorem dL_hasNext_25 : decode cL_hasNext 25 = .ok (.iconst 0, 1) := by decide +kernel
theorem dL_hasNext_26 : decode cL_hasNext 26 = .ok (.ireturn, 1) := by decide +kernel
theorem dL_next_0 : decode cL_next 0 = .ok (.aload_n 2, 1) := by decide +kernel
theorem dL_next_1 : decode cL_next 1 = .ok (.iconst 0, 1) := by decide +kernel
theorem dL_next_2 : decode cL_next 2 = .ok (.aload_n 0, 1) := by decide +kernel
theorem dL_next_3 : decode cL_next 3 = .ok (.iload_n 1, 1) := by decide +kernel
theorem dL_next_4 : decode cL_next 4 = .ok (.invokevirtual 79, 3) := by decide +kernel
theorem dL_next_7 : decode cL_next 7 = .ok (.i2l, 1) := by decide +kernel
theorem dL_next_8 : decode cL_next 8 = .ok (.lastore, 1) := by decide +kernel
theorem dL_next_9 : decode cL_next 9 = .ok (.goto 12, 3) := by decide +kernel
theorem dL_next_12 : decode cL_next 12 = .ok (.astore_n 3, 1) := by decide +kernel
theorem dL_next_13 : decode cL_next 13 = .ok (.iconst 1, 1) := by decide +kernel
theorem dL_next_14 : decode cL_next 14 = .ok (.ireturn, 1) := by decide +kernel
theorem dL_next_15 : decode cL_next 15 = .ok (.astore_n 3, 1) := by decide +kernel
theorem dL_next_16 : decode cL_next 16 = .ok (.iconst 2, 1) := by decide +kernel
theorem dL_next_17 : decode cL_next 17 = .ok (.ireturn, 1) := by decide +kernel
theorem dL_next_18 : decode cL_next 18 = .ok (.astore_n 3, 1) := by decide +kernel
theorem dL_next_19 : decode cL_next 19 = .ok (.iconst 3, 1) := by decide +kernel
theorem dL_next_20 : decode cL_next 20 = .ok (.ireturn, 1) := by decide +kernel
theorem dL_next_21 : decode cL_next 21 = .ok (.iconst 0, 1) := by decide +kernel
theorem dL_next_22 : decode cL_next 22 = .ok (.ireturn, 1) := by decide +kernel
theorem dL_removeAt_0 : decode cL_removeAt 0 = .ok (.aload_n 2, 1) := by decide +kernel
theorem dL_removeAt_1 : decode cL_removeAt 1 = .ok (.iconst 0, 1) := by decide +kernel
theorem dL_removeAt_2 : decode cL_removeAt 2 = .ok (.aload_n 0, 1) := by decide +kernel
theorem dL_removeAt_3 : decode cL_removeAt 3 = .ok (.iload_n 1, 1) := by decide +kernel
theorem dL_removeAt_4 : decode cL_removeAt 4 = .ok (.invokevirtual 82, 3) := by decide +kernel
theorem dL_removeAt_7 : decode cL_removeAt 7 = .ok (.i2l, 1) := by decide +kernel
theorem dL_removeAt_8 : decode cL_removeAt 8 = .ok (.lastore, 1) := by decide +kernel
theorem dL_removeAt_9 : decode cL_removeAt 9 = .ok (.goto 9, 3) := by decide +kernel
theorem dL_removeAt_12 : decode cL_removeAt 12 = .ok (.astore_n 3, 1) := by decide +kernel
theorem dL_removeAt_13 : decode cL_removeAt 13 = .ok (.iconst 1, 1) := by decide +kernel
theorem dL_removeAt_14 : decode cL_removeAt 14 = .ok (.ireturn, 1) := by decide +kernel
theorem dL_removeAt_15 : decode cL_removeAt 15 = .ok (.astore_n 3, 1) := by decide +kernel
theorem dL_removeAt_16 : decode cL_removeAt 16 = .ok (.iconst 2, 1) := by decide +kernel
theorem dL_removeAt_17 : decode cL_removeAt 17 = .ok (.ireturn, 1) := by decide +kernel
theorem dL_removeAt_18 : decode cL_removeAt 18 = .ok (.iconst 0, 1) := by decide +kernel
theorem dL_removeAt_19 : decode cL_removeAt 19 = .ok (.ireturn, 1) := by decide +kernel
theorem dL_setAt_0 : decode cL_setAt 0 = .ok (.aload_n 3, 1) := by decide +kernel
theorem dL_setAt_1 : decode cL_setAt 1 = .ok (.iconst 0, 1) := by decide +kernel
theorem dL_setAt_2 : decode cL_setAt 2 = .ok (.aload_n 0, 1) := by decide +kernel
theorem dL_setAt_3 : decode cL_setAt 3 = .ok (.iload_n 1, 1) := by decide +kernel
theorem dL_setAt_4 : decode cL_setAt 4 = .ok (.iload_n 2, 1) := by decide +kernel
theorem dL_setAt_5 : decode cL_setAt 5 = .ok (.invokevirtual 85, 3) := by decide +kernel
theorem dL_setAt_8 : decode cL_setAt 8 = .ok (.i2l, 1) := by decide +kernel
theorem dL_setAt_9 : decode cL_setAt 9 = .ok (.lastore, 1) := by decide +kernel
theorem dL_setAt_10 : decode cL_setAt 10 = .ok (.goto 15, 3) := by decide +kernel
theorem dL_setAt_13 : decode cL_setAt 13 = .ok (.astore 4, 2) := by decide +kernel
theorem dL_setAt_15 : decode cL_setAt 15 = .ok (.iconst 1, 1) := by decide +kernel
theorem dL_setAt_16 : decode cL_setAt 16 = .ok (.ireturn, 1) := by decide +kernel
theorem dL_setAt_17 : decode cL_setAt 17 = .ok (.astore 4, 2) := by decide +kernel
theorem dL_setAt_19 : decode cL_setAt 19 = .ok (.iconst 2, 1) := by decide +kernel
theorem dL_setAt_20 : decode cL_setAt 20 = .ok (.ireturn, 1) := by decide +kernel
theorem dL_setAt_21 : decode cL_setAt 21 = .ok (.astore 4, 2) := by decide +kernel
theorem dL_setAt_23 : decode cL_setAt 23 = .ok (.iconst 3, 1) := by decide +kernel
theorem dL_setAt_24 : decode cL_setAt 24 = .ok (.ireturn, 1) := by decide +kernel
theorem dL_setAt_25 : decode cL_setAt 25 = .ok (.iconst 0, 1) := by decide +kernel
theorem dL_setAt_26 : decode cL_setAt 26 = .ok (.ireturn, 1) := by decide +kernel
theorem dL_bookOf_0 : decode cL_bookOf 0 = .ok (.aload_n 2, 1) := by decide +kernel
theorem dL_bookOf_1 : decode cL_bookOf 1 = .ok (.iconst 0, 1) := by decide +kernel
theorem dL_bookOf_2 : decode cL_bookOf 2 = .ok (.aload_n 0, 1) := by decide +kernel
theorem dL_bookOf_3 : decode cL_bookOf 3 = .ok (.iload_n 1, 1) := by decide +kernel
theorem dL_bookOf_4 : decode cL_bookOf 4 = .ok (.invokevirtual 88, 3) := by decide +kernel
theorem dL_bookOf_7 : decode cL_bookOf 7 = .ok (.i2l, 1) := by decide +kernel
theorem dL_bookOf_8 : decode cL_bookOf 8 = .ok (.lastore, 1) := by decide +kernel
theorem dL_bookOf_9 : decode cL_bookOf 9 = .ok (.goto 6, 3) := by decide +kernel
theorem dL_bookOf_12 : decode cL_bookOf 12 = .ok (.astore_n 3, 1) := by decide +kernel
theorem dL_bookOf_13 : decode cL_bookOf 13 = .ok (.iconst 1, 1) := by decide +kernel
theorem dL_bookOf_14 : decode cL_bookOf 14 = .ok (.ireturn, 1) := by decide +kernel
theorem dL_bookOf_15 : decode cL_bookOf 15 = .ok (.iconst 0, 1) := by decide +kernel
theorem dL_bookOf_16 : decode cL_bookOf 16 = .ok (.ireturn, 1) := by decide +kernel
theorem dL_size_0 : decode cL_size 0 = .ok (.aload_n 2, 1) := by decide +kernel
theorem dL_size_1 : decode cL_size 1 = .ok (.iconst 0, 1) := by decide +kernel
theorem dL_size_2 : decode cL_size 2 = .ok (.aload_n 0, 1) := by decide +kernel
theorem dL_size_3 : decode cL_size 3 = .ok (.iload_n 1, 1) := by decide +kernel
theorem dL_size_4 : decode cL_size 4 = .ok (.invokevirtual 91, 3) := by decide +kernel
theorem dL_size_7 : decode cL_size 7 = .ok (.i2l, 1) := by decide +kernel
end
section
theorem dL_size_8 : decode cL_size 8 = .ok (.lastore, 1) := by decide +kernel
theorem dL_size_9 : decode cL_size 9 = .ok (.goto 6, 3) := by decide +kernel
theorem dL_size_12 : decode cL_size 12 = .ok (.astore_n 3, 1) := by decide +kernel
theorem dL_size_13 : decode cL_size 13 = .ok (.iconst 1, 1) := by decide +kernel
theorem dL_size_14 : decode cL_size 14 = .ok (.ireturn, 1) := by decide +kernel
theorem dL_size_15 : decode cL_size 15 = .ok (.iconst 0, 1) := by decide +kernel
theorem dL_size_16 : decode cL_size 16 = .ok (.ireturn, 1) := by decide +kernel
theorem dL_hasKey_0 : decode cL_hasKey 0 = .ok (.aload_n 3, 1) := by decide +kernel
theorem dL_hasKey_1 : decode cL_hasKey 1 = .ok (.iconst 0, 1) := by decide +kernel
theorem dL_hasKey_2 : decode cL_hasKey 2 = .ok (.aload_n 0, 1) := by decide +kernel
theorem dL_hasKey_3 : decode cL_hasKey 3 = .ok (.iload_n 1, 1) := by decide +kernel
theorem dL_hasKey_4 : decode cL_hasKey 4 = .ok (.iload_n 2, 1) := by decide +kernel
theorem dL_hasKey_5 : decode cL_hasKey 5 = .ok (.invokevirtual 94, 3) := by decide +kernel
theorem dL_hasKey_8 : decode cL_hasKey 8 = .ok (.ifCond .eq 7, 3) := by decide +kernel
theorem dL_hasKey_11 : decode cL_hasKey 11 = .ok (.lconst 1, 1) := by decide +kernel
theorem dL_hasKey_12 : decode cL_hasKey 12 = .ok (.goto 4, 3) := by decide +kernel
theorem dL_hasKey_15 : decode cL_hasKey 15 = .ok (.lconst 0, 1) := by decide +kernel
theorem dL_hasKey_16 : decode cL_hasKey 16 = .ok (.lastore, 1) := by decide +kernel
theorem dL_hasKey_17 : decode cL_hasKey 17 = .ok (.goto 7, 3) := by decide +kernel
theorem dL_hasKey_20 : decode cL_hasKey 20 = .ok (.astore 4, 2) := by decide +kernel
theorem dL_hasKey_22 : decode cL_hasKey 22 = .ok (.iconst 1, 1) := by decide +kernel
theorem dL_hasKey_23 : decode cL_hasKey 23 = .ok (.ireturn, 1) := by decide +kernel
theorem dL_hasKey_24 : decode cL_hasKey 24 = .ok (.iconst 0, 1) := by decide +kernel
theorem dL_hasKey_25 : decode cL_hasKey 25 = .ok (.ireturn, 1) := by decide +kernel
theorem dL_hasValue_0 : decode cL_hasValue 0 = .ok (.aload_n 3, 1) := by decide +kernel
theorem dL_hasValue_1 : decode cL_hasValue 1 = .ok (.iconst 0, 1) := by decide +kernel
theorem dL_hasValue_2 : decode cL_hasValue 2 = .ok (.aload_n 0, 1) := by decide +kernel
theorem dL_hasValue_3 : decode cL_hasValue 3 = .ok (.iload_n 1, 1) := by decide +kernel
theorem dL_hasValue_4 : decode cL_hasValue 4 = .ok (.iload_n 2, 1) := by decide +kernel
theorem dL_hasValue_5 : decode cL_hasValue 5 = .ok (.invokevirtual 97, 3) := by decide +kernel
theorem dL_hasValue_8 : decode cL_hasValue 8 = .ok (.ifCond .eq 7, 3) := by decide +kernel
theorem dL_hasValue_11 : decode cL_hasValue 11 = .ok (.lconst 1, 1) := by decide +kernel
theorem dL_hasValue_12 : decode cL_hasValue 12 = .ok (.goto 4, 3) := by decide +kernel
theorem dL_hasValue_15 : decode cL_hasValue 15 = .ok (.lconst 0, 1) := by decide +kernel
theorem dL_hasValue_16 : decode cL_hasValue 16 = .ok (.lastore, 1) := by decide +kernel
theorem dL_hasValue_17 : decode cL_hasValue 17 = .ok (.goto 7, 3) := by decide +kernel
theorem dL_hasValue_20 : decode cL_hasValue 20 = .ok (.astore 4, 2) := by decide +kernel
theorem dL_hasValue_22 : decode cL_hasValue 22 = .ok (.iconst 1, 1) := by decide +kernel
theorem dL_hasValue_23 : decode cL_hasValue 23 = .ok (.ireturn, 1) := by decide +kernel
theorem dL_hasValue_24 : decode cL_hasValue 24 = .ok (.iconst 0, 1) := by decide +kernel
theorem dL_hasValue_25 : decode cL_hasValue 25 = .ok (.ireturn, 1) := by decide +kernel
theorem dL_get_0 : decode cL_get 0 = .ok (.aload 4, 2) := by decide +kernel
theorem dL_get_2 : decode cL_get 2 = .ok (.iconst 0, 1) := by decide +kernel
theorem dL_get_3 : decode cL_get 3 = .ok (.aload_n 0, 1) := by decide +kernel
theorem dL_get_4 : decode cL_get 4 = .ok (.iload_n 1, 1) := by decide +kernel
theorem dL_get_5 : decode cL_get 5 = .ok (.iload_n 2, 1) := by decide +kernel
theorem dL_get_6 : decode cL_get 6 = .ok (.iload_n 3, 1) := by decide +kernel
theorem dL_get_7 : decode cL_get 7 = .ok (.invokevirtual 100, 3) := by decide +kernel
theorem dL_get_10 : decode cL_get 10 = .ok (.i2l, 1) := by decide +kernel
theorem dL_get_11 : decode cL_get 11 = .ok (.lastore, 1) := by decide +kernel
theorem dL_get_12 : decode cL_get 12 = .ok (.goto 7, 3) := by decide +kernel
theorem dL_get_15 : decode cL_get 15 = .ok (.astore 5, 2) := by decide +kernel
theorem dL_get_17 : decode cL_get 17 = .ok (.iconst 1, 1) := by decide +kernel
theorem dL_get_18 : decode cL_get 18 = .ok (.ireturn, 1) := by decide +kernel
theorem dL_get_19 : decode cL_get 19 = .ok (.iconst 0, 1) := by decide +kernel
theorem dL_get_20 : decode cL_get 20 = .ok (.ireturn, 1) := by decide +kernel
theorem dL_keyAt_0 : decode cL_keyAt 0 = .ok (.aload_n 3, 1) := by decide +kernel
theorem dL_keyAt_1 : decode cL_keyAt 1 = .ok (.iconst 0, 1) := by decide +kernel
theorem dL_keyAt_2 : decode cL_keyAt 2 = .ok (.aload_n 0, 1) := by decide +kernel
theorem dL_keyAt_3 : decode cL_keyAt 3 = .ok (.iload_n 1, 1) := by decide +kernel
theorem dL_keyAt_4 : decode cL_keyAt 4 = .ok (.iload_n 2, 1) := by decide +kernel
theorem dL_keyAt_5 : decode cL_keyAt 5 = .ok (.invokevirtual 103, 3) := by decide +kernel
theorem dL_keyAt_8 : decode cL_keyAt 8 = .ok (.i2l, 1) := by decide +kernel
theorem dL_keyAt_9 : decode cL_keyAt 9 = .ok (.lastore, 1) := by decide +kernel
theorem dL_keyAt_10 : decode cL_keyAt 10 = .ok (.goto 7, 3) := by decide +kernel
theorem dL_keyAt_13 : decode cL_keyAt 13 = .ok (.astore 4, 2) := by decide +kernel
theorem dL_keyAt_15 : decode cL_keyAt 15 = .ok (.iconst 1, 1) := by decide +kernel
theorem dL_keyAt_16 : decode cL_keyAt 16 = .ok (.ireturn, 1) := by decide +kernel
theorem dL_keyAt_17 : decode cL_keyAt 17 = .ok (.iconst 0, 1) := by decide +kernel
theorem dL_keyAt_18 : decode cL_keyAt 18 = .ok (.ireturn, 1) := by decide +kernel
theorem dL_valueAt_0 : decode cL_valueAt 0 = .ok (.aload_n 3, 1) := by decide +kernel
theorem dL_valueAt_1 : decode cL_valueAt 1 = .ok (.iconst 0, 1) := by decide +kernel
theorem dL_valueAt_2 : decode cL_valueAt 2 = .ok (.aload_n 0, 1) := by decide +kernel
theorem dL_valueAt_3 : decode cL_valueAt 3 = .ok (.iload_n 1, 1) := by decide +kernel
theorem dL_valueAt_4 : decode cL_valueAt 4 = .ok (.iload_n 2, 1) := by decide +kernel
theorem dL_valueAt_5 : decode cL_valueAt 5 = .ok (.invokevirtual 106, 3) := by decide +kernel
theorem dL_valueAt_8 : decode cL_valueAt 8 = .ok (.i2l, 1) := by decide +kernel
theorem dL_valueAt_9 : decode cL_valueAt 9 = .ok (.lastore, 1) := by decide +kernel
theorem dL_valueAt_10 : decode cL_valueAt 10 = .ok (.goto 7, 3) := by decide +kernel
theorem dL_valueAt_13 : decode cL_valueAt 13 = .ok (.astore 4, 2) := by decide +kernel
theorem dL_valueAt_15 : decode cL_valueAt 15 = .ok (.iconst 1, 1) := by decide +kernel
theorem dL_valueAt_16 : decode cL_valueAt 16 = .ok (.ireturn, 1) := by decide +kernel
theorem dL_valueAt_17 : decode cL_valueAt 17 = .ok (.iconst 0, 1) := by decide +kernel
theorem dL_valueAt_18 : decode cL_valueAt 18 = .ok (.ireturn, 1) := by decide +kernel
theorem dL_placeOf_0 : decode cL_placeOf 0 = .ok (.aload_n 3, 1) := by decide +kernel
theorem dL_placeOf_1 : decode cL_placeOf 1 = .ok (.iconst 0, 1) := by decide +kernel
theorem dL_placeOf_2 : decode cL_placeOf 2 = .ok (.aload_n 0, 1) := by decide +kernel
theorem dL_placeOf_3 : decode cL_placeOf 3 = .ok (.iload_n 1, 1) := by decide +kernel
theorem dL_placeOf_4 : decode cL_placeOf 4 = .ok (.iload_n 2, 1) := by decide +kernel
theorem dL_placeOf_5 : decode cL_placeOf 5 = .ok (.invokevirtual 109, 3) := by decide +kernel
theorem dL_placeOf_8 : decode cL_placeOf 8 = .ok (.i2l, 1) := by decide +kernel
theorem dL_placeOf_9 : decode cL_placeOf 9 = .ok (.lastore, 1) := by decide +kernel
theorem dL_placeOf_10 : decode cL_placeOf 10 = .ok (.goto 7, 3) := by decide +kernel
theorem dL_placeOf_13 : decode cL_placeOf 13 = .ok (.astore 4, 2) := by decide +kernel
theorem dL_placeOf_15 : decode cL_placeOf 15 = .ok (.iconst 1, 1) := by decide +kernel
theorem dL_placeOf_16 : decode cL_placeOf 16 = .ok (.ireturn, 1) := by decide +kernel
theorem dL_placeOf_17 : decode cL_placeOf 17 = .ok (.iconst 0, 1) := by decide +kernel
theorem dL_placeOf_18 : decode cL_placeOf 18 = .ok (.ireturn, 1) := by decide +kernel
theorem dL_areEqual_0 : decode cL_areEqual 0 = .ok (.aload_n 3, 1) := by decide +kernel
theorem dL_areEqual_1 : decode cL_areEqual 1 = .ok (.iconst 0, 1) := by decide +kernel
theorem dL_areEqual_2 : decode cL_areEqual 2 = .ok (.aload_n 0, 1) := by decide +kernel
theorem dL_areEqual_3 : decode cL_areEqual 3 = .ok (.iload_n 1, 1) := by decide +kernel
theorem dL_areEqual_4 : decode cL_areEqual 4 = .ok (.iload_n 2, 1) := by decide +kernel
theorem dL_areEqual_5 : decode cL_areEqual 5 = .ok (.invokevirtual 112, 3) := by decide +kernel
theorem dL_areEqual_8 : decode cL_areEqual 8 = .ok (.ifCond .eq 7, 3) := by decide +kernel
theorem dL_areEqual_11 : decode cL_areEqual 11 = .ok (.lconst 1, 1) := by decide +kernel
theorem dL_areEqual_12 : decode cL_areEqual 12 = .ok (.goto 4, 3) := by decide +kernel
theorem dL_areEqual_15 : decode cL_areEqual 15 = .ok (.lconst 0, 1) := by decide +kernel
theorem dL_areEqual_16 : decode cL_areEqual 16 = .ok (.lastore, 1) := by decide +kernel
theorem dL_areEqual_17 : decode cL_areEqual 17 = .ok (.goto 7, 3) := by decide +kernel
theorem dL_areEqual_20 : decode cL_areEqual 20 = .ok (.astore 4, 2) := by decide +kernel
theorem dL_areEqual_22 : decode cL_areEqual 22 = .ok (.iconst 1, 1) := by decide +kernel
theorem dL_areEqual_23 : decode cL_areEqual 23 = .ok (.ireturn, 1) := by decide +kernel
theorem dL_areEqual_24 : decode cL_areEqual 24 = .ok (.iconst 0, 1) := by decide +kernel
theorem dL_areEqual_25 : decode cL_areEqual 25 = .ok (.ireturn, 1) := by decide +kernel
theorem dL_areAlike_0 : decode cL_areAlike 0 = .ok (.aload_n 3, 1) := by decide +kernel
theorem dL_areAlike_1 : decode cL_areAlike 1 = .ok (.iconst 0, 1) := by decide +kernel
theorem dL_areAlike_2 : decode cL_areAlike 2 = .ok (.aload_n 0, 1) := by decide +kernel
theorem dL_areAlike_3 : decode cL_areAlike 3 = .ok (.iload_n 1, 1) := by decide +kernel
theorem dL_areAlike_4 : decode cL_areAlike 4 = .ok (.iload_n 2, 1) := by decide +kernel
theorem dL_areAlike_5 : decode cL_areAlike 5 = .ok (.invokevirtual 115, 3) := by decide +kernel
theorem dL_areAlike_8 : decode cL_areAlike 8 = .ok (.ifCond .eq 7, 3) := by decide +kernel
theorem dL_areAlike_11 : decode cL_areAlike 11 = .ok (.lconst 1, 1) := by decide +kernel
theorem dL_areAlike_12 : decode cL_areAlike 12 = .ok (.goto 4, 3) := by decide +kernel
theorem dL_areAlike_15 : decode cL_areAlike 15 = .ok (.lconst 0, 1) := by decide +kernel
theorem dL_areAlike_16 : decode cL_areAlike 16 = .ok (.lastore, 1) := by decide +kernel
theorem dL_areAlike_17 : decode cL_areAlike 17 = .ok (.goto 7, 3) := by decide +kernel
theorem dL_areAlike_20 : decode cL_areAlike 20 = .ok (.astore 4, 2) := by decide +kernel
theorem dL_areAlike_22 : decode cL_areAlike 22 = .ok (.iconst 1, 1) := by decide +kernel
theorem dL_areAlike_23 : decode cL_areAlike 23 = .ok (.ireturn, 1) := by decide +kernel
theorem dL_areAlike_24 : decode cL_areAlike 24 = .ok (.iconst 0, 1) := by decide +kernel
theorem dL_areAlike_25 : decode cL_areAlike 25 = .ok (.ireturn, 1) := by decide +kernel
theorem dL_hash_0 : decode cL_hash 0 = .ok (.aload_n 2, 1) := by decide +kernel
theorem dL_hash_1 : decode cL_hash 1 = .ok (.iconst 0, 1) := by decide +kernel
theorem dL_hash_2 : decode cL_hash 2 = .ok (.aload_n 0, 1) := by decide +kernel
theorem dL_hash_3 : decode cL_hash 3 = .ok (.iload_n 1, 1) := by decide +kernel
theorem dL_hash_4 : decode cL_hash 4 = .ok (.invokevirtual 118, 3) := by decide +kernel
theorem dL_hash_7 : decode cL_hash 7 = .ok (.i2l, 1) := by decide +kernel
theorem dL_hash_8 : decode cL_hash 8 = .ok (.lastore, 1) := by decide +kernel
theorem dL_hash_9 : decode cL_hash 9 = .ok (.goto 6, 3) := by decide +kernel
theorem dL_hash_12 : decode cL_hash 12 = .ok (.astore_n 3, 1) := by decide +kernel
theorem dL_hash_13 : decode cL_hash 13 = .ok (.iconst 1, 1) := by decide +kernel
theorem dL_hash_14 : decode cL_hash 14 = .ok (.ireturn, 1) := by decide +kernel
theorem dL_hash_15 : decode cL_hash 15 = .ok (.iconst 0, 1) := by decide +kernel
theorem dL_hash_16 : decode cL_hash 16 = .ok (.ireturn, 1) := by decide +kernel
theorem dL_sum_0 : decode cL_sum 0 = .ok (.aload_n 2, 1) := by decide +kernel
theorem dL_sum_1 : decode cL_sum 1 = .ok (.iconst 0, 1) := by decide +kernel
theorem dL_sum_2 : decode cL_sum 2 = .ok (.aload_n 0, 1) := by decide +kernel
theorem dL_sum_3 : decode cL_sum 3 = .ok (.iload_n 1, 1) := by decide +kernel
theorem dL_sum_4 : decode cL_sum 4 = .ok (.invokevirtual 121, 3) := by decide +kernel
theorem dL_sum_7 : decode cL_sum 7 = .ok (.lastore, 1) := by decide +kernel
theorem dL_sum_8 : decode cL_sum 8 = .ok (.goto 6, 3) := by decide +kernel
theorem dL_sum_11 : decode cL_sum 11 = .ok (.astore_n 3, 1) := by decide +kernel
theorem dL_sum_12 : decode cL_sum 12 = .ok (.iconst 1, 1) := by decide +kernel
theorem dL_sum_13 : decode cL_sum 13 = .ok (.ireturn, 1) := by decide +kernel
theorem dL_sum_14 : decode cL_sum 14 = .ok (.iconst 0, 1) := by decide +kernel
theorem dL_sum_15 : decode cL_sum 15 = .ok (.ireturn, 1) := by decide +kernel
theorem dL_write_0 : decode cL_write 0 = .ok (.aload_n 2, 1) := by decide +kernel
theorem dL_write_1 : decode cL_write 1 = .ok (.iconst 0, 1) := by decide +kernel
theorem dL_write_2 : decode cL_write 2 = .ok (.aload_n 0, 1) := by decide +kernel
theorem dL_write_3 : decode cL_write 3 = .ok (.iload_n 1, 1) := by decide +kernel
theorem dL_write_4 : decode cL_write 4 = .ok (.invokevirtual 125, 3) := by decide +kernel
theorem dL_write_7 : decode cL_write 7 = .ok (.i2l, 1) := by decide +kernel
theorem dL_write_8 : decode cL_write 8 = .ok (.lastore, 1) := by decide +kernel
theorem dL_write_9 : decode cL_write 9 = .ok (.goto 6, 3) := by decide +kernel
theorem dL_write_12 : decode cL_write 12 = .ok (.astore_n 3, 1) := by decide +kernel
theorem dL_write_13 : decode cL_write 13 = .ok (.iconst 1, 1) := by decide +kernel
theorem dL_write_14 : decode cL_write 14 = .ok (.ireturn, 1) := by decide +kernel
theorem dL_write_15 : decode cL_write 15 = .ok (.iconst 0, 1) := by decide +kernel
theorem dL_write_16 : decode cL_write 16 = .ok (.ireturn, 1) := by decide +kernel
theorem dL_outputAt_0 : decode cL_outputAt 0 = .ok (.aload_n 2, 1) := by decide +kernel
theorem dL_outputAt_1 : decode cL_outputAt 1 = .ok (.iconst 0, 1) := by decide +kernel
theorem dL_outputAt_2 : decode cL_outputAt 2 = .ok (.aload_n 0, 1) := by decide +kernel
theorem dL_outputAt_3 : decode cL_outputAt 3 = .ok (.iload_n 1, 1) := by decide +kernel
theorem dL_outputAt_4 : decode cL_outputAt 4 = .ok (.invokevirtual 128, 3) := by decide +kernel
theorem dL_outputAt_7 : decode cL_outputAt 7 = .ok (.i2l, 1) := by decide +kernel
theorem dL_outputAt_8 : decode cL_outputAt 8 = .ok (.lastore, 1) := by decide +kernel
theorem dL_outputAt_9 : decode cL_outputAt 9 = .ok (.goto 6, 3) := by decide +kernel
theorem dL_outputAt_12 : decode cL_outputAt 12 = .ok (.astore_n 3, 1) := by decide +kernel
theorem dL_outputAt_13 : decode cL_outputAt 13 = .ok (.iconst 1, 1) := by decide +kernel
theorem dL_outputAt_14 : decode cL_outputAt 14 = .ok (.ireturn, 1) := by decide +kernel
theorem dL_outputAt_15 : decode cL_outputAt 15 = .ok (.iconst 0, 1) := by decide +kernel
theorem dL_outputAt_16 : decode cL_outputAt 16 = .ok (.ireturn, 1) := by decide +kernel
theorem dL_isAddRefused_0 : decode cL_isAddRefused 0 = .ok (.aload_n 3, 1) := by decide +kernel
theorem dL_isAddRefused_1 : decode cL_isAddRefused 1 = .ok (.iconst 0, 1) := by decide +kernel
theorem dL_isAddRefused_2 : decode cL_isAddRefused 2 = .ok (.aload_n 0, 1) := by decide +kernel
theorem dL_isAddRefused_3 : decode cL_isAddRefused 3 = .ok (.iload_n 1, 1) := by decide +kernel
theorem dL_isAddRefused_4 : decode cL_isAddRefused 4 = .ok (.iload_n 2, 1) := by decide +kernel
theorem dL_isAddRefused_5 : decode cL_isAddRefused 5 = .ok (.invokevirtual 131, 3) := by decide +kernel
theorem dL_isAddRefused_8 : decode cL_isAddRefused 8 = .ok (.ifCond .eq 7, 3) := by decide +kernel
theorem dL_isAddRefused_11 : decode cL_isAddRefused 11 = .ok (.lconst 1, 1) := by decide +kernel
theorem dL_isAddRefused_12 : decode cL_isAddRefused 12 = .ok (.goto 4, 3) := by decide +kernel
theorem dL_isAddRefused_15 : decode cL_isAddRefused 15 = .ok (.lconst 0, 1) := by decide +kernel
theorem dL_isAddRefused_16 : decode cL_isAddRefused 16 = .ok (.lastore, 1) := by decide +kernel
theorem dL_isAddRefused_17 : decode cL_isAddRefused 17 = .ok (.goto 11, 3) := by decide +kernel
theorem dL_isAddRefused_20 : decode cL_isAddRefused 20 = .ok (.astore 4, 2) := by decide +kernel
theorem dL_isAddRefused_22 : decode cL_isAddRefused 22 = .ok (.iconst 1, 1) := by decide +kernel
theorem dL_isAddRefused_23 : decode cL_isAddRefused 23 = .ok (.ireturn, 1) := by decide +kernel
theorem dL_isAddRefused_24 : decode cL_isAddRefused 24 = .ok (.astore 4, 2) := by decide +kernel
theorem dL_isAddRefused_26 : decode cL_isAddRefused 26 = .ok (.iconst 2, 1) := by decide +kernel
theorem dL_isAddRefused_27 : decode cL_isAddRefused 27 = .ok (.ireturn, 1) := by decide +kernel
theorem dL_isAddRefused_28 : decode cL_isAddRefused 28 = .ok (.iconst 0, 1) := by decide +kernel
theorem dL_isAddRefused_29 : decode cL_isAddRefused 29 = .ok (.ireturn, 1) := by decide +kernel
theorem dL_isNothingRefused_0 : decode cL_isNothingRefused 0 = .ok (.aload_n 3, 1) := by decide +kernel
theorem dL_isNothingRefused_1 : decode cL_isNothingRefused 1 = .ok (.iconst 0, 1) := by decide +kernel
theorem dL_isNothingRefused_2 : decode cL_isNothingRefused 2 = .ok (.aload_n 0, 1) := by decide +kernel
theorem dL_isNothingRefused_3 : decode cL_isNothingRefused 3 = .ok (.iload_n 1, 1) := by decide +kernel
theorem dL_isNothingRefused_4 : decode cL_isNothingRefused 4 = .ok (.iload_n 2, 1) := by decide +kernel
theorem dL_isNothingRefused_5 : decode cL_isNothingRefused 5 = .ok (.invokevirtual 134, 3) := by decide +kernel
theorem dL_isNothingRefused_8 : decode cL_isNothingRefused 8 = .ok (.ifCond .eq 7, 3) := by decide +kernel
theorem dL_isNothingRefused_11 : decode cL_isNothingRefused 11 = .ok (.lconst 1, 1) := by decide +kernel
theorem dL_isNothingRefused_12 : decode cL_isNothingRefused 12 = .ok (.goto 4, 3) := by decide +kernel
theorem dL_isNothingRefused_15 : decode cL_isNothingRefused 15 = .ok (.lconst 0, 1) := by decide +kernel
theorem dL_isNothingRefused_16 : decode cL_isNothingRefused 16 = .ok (.lastore, 1) := by decide +kernel
theorem dL_isNothingRefused_17 : decode cL_isNothingRefused 17 = .ok (.goto 11, 3) := by decide +kernel
theorem dL_isNothingRefused_20 : decode cL_isNothingRefused 20 = .ok (.astore 4, 2) := by decide +kernel
theorem dL_isNothingRefused_22 : decode cL_isNothingRefused 22 = .ok (.iconst 1, 1) := by decide +kernel
theorem dL_isNothingRefused_23 : decode cL_isNothingRefused 23 = .ok (.ireturn, 1) := by decide +kernel
theorem dL_isNothingRefused_24 : decode cL_isNothingRefused 24 = .ok (.astore 4, 2) := by decide +kernel
theorem dL_isNothingRefused_26 : decode cL_isNothingRefused 26 = .ok (.iconst 2, 1) := by decide +kernel
theorem dL_isNothingRefused_27 : decode cL_isNothingRefused 27 = .ok (.ireturn, 1) := by decide +kernel
theorem dL_isNothingRefused_28 : decode cL_isNothingRefused 28 = .ok (.iconst 0, 1) := by decide +kernel
theorem dL_isNothingRefused_29 : decode cL_isNothingRefused 29 = .ok (.ireturn, 1) := by decide +kernel
theorem dL_mean_0 : decode cL_mean 0 = .ok (.aload_n 2, 1) := by decide +kernel
theorem dL_mean_1 : decode cL_mean 1 = .ok (.iconst 0, 1) := by decide +kernel
theorem dL_mean_2 : decode cL_mean 2 = .ok (.aload_n 0, 1) := by decide +kernel
theorem dL_mean_3 : decode cL_mean 3 = .ok (.iload_n 1, 1) := by decide +kernel
theorem dL_mean_4 : decode cL_mean 4 = .ok (.invokevirtual 137, 3) := by decide +kernel
theorem dL_mean_7 : decode cL_mean 7 = .ok (.dastore, 1) := by decide +kernel
theorem dL_mean_8 : decode cL_mean 8 = .ok (.goto 6, 3) := by decide +kernel
theorem dL_mean_11 : decode cL_mean 11 = .ok (.astore_n 3, 1) := by decide +kernel
theorem dL_mean_12 : decode cL_mean 12 = .ok (.iconst 1, 1) := by decide +kernel
theorem dL_mean_13 : decode cL_mean 13 = .ok (.ireturn, 1) := by decide +kernel
theorem dL_mean_14 : decode cL_mean 14 = .ok (.iconst 0, 1) := by decide +kernel
theorem dL_mean_15 : decode cL_mean 15 = .ok (.ireturn, 1) := by decide +kernel
end
section
theorem dL_law_0 : decode cL_law 0 = .ok (.new 8, 3) := by decide +kernel
theorem dL_law_3 : decode cL_law 3 = .ok (.dup, 1) := by decide +kernel
theorem dL_law_4 : decode cL_law 4 = .ok (.invokespecial 141, 3) := by decide +kernel
theorem dL_law_7 : decode cL_law 7 = .ok (.astore_n 1, 1) := by decide +kernel
theorem dL_law_8 : decode cL_law 8 = .ok (.new 142, 3) := by decide +kernel
theorem dL_law_11 : decode cL_law 11 = .ok (.dup, 1) := by decide +kernel
theorem dL_law_12 : decode cL_law 12 = .ok (.invokespecial 144, 3) := by decide +kernel
theorem dL_law_15 : decode cL_law 15 = .ok (.astore_n 2, 1) := by decide +kernel
theorem dL_law_16 : decode cL_law 16 = .ok (.iconst 1, 1) := by decide +kernel
theorem dL_law_17 : decode cL_law 17 = .ok (.newarray .long, 2) := by decide +kernel
theorem dL_law_19 : decode cL_law 19 = .ok (.astore_n 3, 1) := by decide +kernel
theorem dL_law_20 : decode cL_law 20 = .ok (.iconst 1, 1) := by decide +kernel
theorem dL_law_21 : decode cL_law 21 = .ok (.newarray .double, 2) := by decide +kernel
theorem dL_law_23 : decode cL_law 23 = .ok (.astore 4, 2) := by decide +kernel
theorem dL_law_25 : decode cL_law 25 = .ok (.iconst 0, 1) := by decide +kernel
theorem dL_law_26 : decode cL_law 26 = .ok (.istore 5, 2) := by decide +kernel
theorem dL_law_28 : decode cL_law 28 = .ok (.iload 5, 2) := by decide +kernel
theorem dL_law_30 : decode cL_law 30 = .ok (.aload_n 0, 1) := by decide +kernel
theorem dL_law_31 : decode cL_law 31 = .ok (.arraylength, 1) := by decide +kernel
theorem dL_law_32 : decode cL_law 32 = .ok (.iconst 5, 1) := by decide +kernel
theorem dL_law_33 : decode cL_law 33 = .ok (.isub, 1) := by decide +kernel
theorem dL_law_34 : decode cL_law 34 = .ok (.if_icmp .gt 2852, 3) := by decide +kernel
theorem dL_law_37 : decode cL_law 37 = .ok (.aload_n 0, 1) := by decide +kernel
theorem dL_law_38 : decode cL_law 38 = .ok (.iload 5, 2) := by decide +kernel
theorem dL_law_40 : decode cL_law 40 = .ok (.iaload, 1) := by decide +kernel
theorem dL_law_41 : decode cL_law 41 = .ok (.bipush 63, 2) := by decide +kernel
theorem dL_law_43 : decode cL_law 43 = .ok (.iand, 1) := by decide +kernel
theorem dL_law_44 : decode cL_law 44 = .ok (.tableswitch 2836 0 39 #[176, 232, 319, 399, 479, 554, 622, 709, 777, 864, 956, 1024, 1092, 1148, 1211, 1255, 1311, 1391, 1454, 1510, 1566, 1634, 1690, 1746, 1821, 1896, 1976, 2044, 2112, 2180, 2255, 2330, 2386, 2441, 2497, 2553, 2628, 2703, 2780, 2823], 176) := by decide +kernel
theorem dL_law_220 : decode cL_law 220 = .ok (.aload_n 1, 1) := by decide +kernel
theorem dL_law_221 : decode cL_law 221 = .ok (.aload_n 0, 1) := by decide +kernel
theorem dL_law_222 : decode cL_law 222 = .ok (.iload 5, 2) := by decide +kernel
theorem dL_law_224 : decode cL_law 224 = .ok (.iconst 1, 1) := by decide +kernel
theorem dL_law_225 : decode cL_law 225 = .ok (.iadd, 1) := by decide +kernel
theorem dL_law_226 : decode cL_law 226 = .ok (.iaload, 1) := by decide +kernel
theorem dL_law_227 : decode cL_law 227 = .ok (.aload_n 3, 1) := by decide +kernel
theorem dL_law_228 : decode cL_law 228 = .ok (.invokestatic 145, 3) := by decide +kernel
theorem dL_law_231 : decode cL_law 231 = .ok (.istore 6, 2) := by decide +kernel
theorem dL_law_233 : decode cL_law 233 = .ok (.aload_n 2, 1) := by decide +kernel
theorem dL_law_234 : decode cL_law 234 = .ok (.aload_n 0, 1) := by decide +kernel
theorem dL_law_235 : decode cL_law 235 = .ok (.iload 5, 2) := by decide +kernel
theorem dL_law_237 : decode cL_law 237 = .ok (.iconst 1, 1) := by decide +kernel
theorem dL_law_238 : decode cL_law 238 = .ok (.iadd, 1) := by decide +kernel
theorem dL_law_239 : decode cL_law 239 = .ok (.iaload, 1) := by decide +kernel
theorem dL_law_240 : decode cL_law 240 = .ok (.invokevirtual 150, 3) := by decide +kernel
theorem dL_law_243 : decode cL_law 243 = .ok (.istore 7, 2) := by decide +kernel
theorem dL_law_245 : decode cL_law 245 = .ok (.aload_n 2, 1) := by decide +kernel
theorem dL_law_246 : decode cL_law 246 = .ok (.invokevirtual 151, 3) := by decide +kernel
theorem dL_law_249 : decode cL_law 249 = .ok (.iload 6, 2) := by decide +kernel
theorem dL_law_251 : decode cL_law 251 = .ok (.if_icmp .eq 5, 3) := by decide +kernel
theorem dL_law_254 : decode cL_law 254 = .ok (.iconst 0, 1) := by decide +kernel
theorem dL_law_255 : decode cL_law 255 = .ok (.ireturn, 1) := by decide +kernel
theorem dL_law_256 : decode cL_law 256 = .ok (.iload 6, 2) := by decide +kernel
theorem dL_law_258 : decode cL_law 258 = .ok (.ifCond .ne 15, 3) := by decide +kernel
theorem dL_law_261 : decode cL_law 261 = .ok (.aload_n 3, 1) := by decide +kernel
theorem dL_law_262 : decode cL_law 262 = .ok (.iconst 0, 1) := by decide +kernel
theorem dL_law_263 : decode cL_law 263 = .ok (.laload, 1) := by decide +kernel
theorem dL_law_264 : decode cL_law 264 = .ok (.iload 7, 2) := by decide +kernel
theorem dL_law_266 : decode cL_law 266 = .ok (.i2l, 1) := by decide +kernel
theorem dL_law_267 : decode cL_law 267 = .ok (.lcmp, 1) := by decide +kernel
theorem dL_law_268 : decode cL_law 268 = .ok (.ifCond .eq 5, 3) := by decide +kernel
theorem dL_law_271 : decode cL_law 271 = .ok (.iconst 0, 1) := by decide +kernel
theorem dL_law_272 : decode cL_law 272 = .ok (.ireturn, 1) := by decide +kernel
theorem dL_law_273 : decode cL_law 273 = .ok (.goto 2607, 3) := by decide +kernel
theorem dL_law_276 : decode cL_law 276 = .ok (.aload_n 1, 1) := by decide +kernel
theorem dL_law_277 : decode cL_law 277 = .ok (.aload_n 0, 1) := by decide +kernel
theorem dL_law_278 : decode cL_law 278 = .ok (.iload 5, 2) := by decide +kernel
theorem dL_law_280 : decode cL_law 280 = .ok (.iconst 1, 1) := by decide +kernel
theorem dL_law_281 : decode cL_law 281 = .ok (.iadd, 1) := by decide +kernel
theorem dL_law_282 : decode cL_law 282 = .ok (.iaload, 1) := by decide +kernel
theorem dL_law_283 : decode cL_law 283 = .ok (.aload_n 0, 1) := by decide +kernel
theorem dL_law_284 : decode cL_law 284 = .ok (.iload 5, 2) := by decide +kernel
theorem dL_law_286 : decode cL_law 286 = .ok (.iconst 2, 1) := by decide +kernel
theorem dL_law_287 : decode cL_law 287 = .ok (.iadd, 1) := by decide +kernel
theorem dL_law_288 : decode cL_law 288 = .ok (.iaload, 1) := by decide +kernel
theorem dL_law_289 : decode cL_law 289 = .ok (.aload_n 0, 1) := by decide +kernel
theorem dL_law_290 : decode cL_law 290 = .ok (.iload 5, 2) := by decide +kernel
theorem dL_law_292 : decode cL_law 292 = .ok (.iconst 3, 1) := by decide +kernel
theorem dL_law_293 : decode cL_law 293 = .ok (.iadd, 1) := by decide +kernel
theorem dL_law_294 : decode cL_law 294 = .ok (.iaload, 1) := by decide +kernel
theorem dL_law_295 : decode cL_law 295 = .ok (.aload_n 3, 1) := by decide +kernel
theorem dL_law_296 : decode cL_law 296 = .ok (.invokestatic 154, 3) := by decide +kernel
theorem dL_law_299 : decode cL_law 299 = .ok (.istore 6, 2) := by decide +kernel
theorem dL_law_301 : decode cL_law 301 = .ok (.aload_n 2, 1) := by decide +kernel
theorem dL_law_302 : decode cL_law 302 = .ok (.aload_n 0, 1) := by decide +kernel
theorem dL_law_303 : decode cL_law 303 = .ok (.iload 5, 2) := by decide +kernel
theorem dL_law_305 : decode cL_law 305 = .ok (.iconst 1, 1) := by decide +kernel
theorem dL_law_306 : decode cL_law 306 = .ok (.iadd, 1) := by decide +kernel
theorem dL_law_307 : decode cL_law 307 = .ok (.iaload, 1) := by decide +kernel
theorem dL_law_308 : decode cL_law 308 = .ok (.aload_n 0, 1) := by decide +kernel
theorem dL_law_309 : decode cL_law 309 = .ok (.iload 5, 2) := by decide +kernel
theorem dL_law_311 : decode cL_law 311 = .ok (.iconst 2, 1) := by decide +kernel
theorem dL_law_312 : decode cL_law 312 = .ok (.iadd, 1) := by decide +kernel
theorem dL_law_313 : decode cL_law 313 = .ok (.iaload, 1) := by decide +kernel
theorem dL_law_314 : decode cL_law 314 = .ok (.aload_n 0, 1) := by decide +kernel
theorem dL_law_315 : decode cL_law 315 = .ok (.iload 5, 2) := by decide +kernel
theorem dL_law_317 : decode cL_law 317 = .ok (.iconst 3, 1) := by decide +kernel
theorem dL_law_318 : decode cL_law 318 = .ok (.iadd, 1) := by decide +kernel
theorem dL_law_319 : decode cL_law 319 = .ok (.iaload, 1) := by decide +kernel
theorem dL_law_320 : decode cL_law 320 = .ok (.invokevirtual 157, 3) := by decide +kernel
theorem dL_law_323 : decode cL_law 323 = .ok (.istore 7, 2) := by decide +kernel
theorem dL_law_325 : decode cL_law 325 = .ok (.aload_n 2, 1) := by decide +kernel
theorem dL_law_326 : decode cL_law 326 = .ok (.invokevirtual 151, 3) := by decide +kernel
theorem dL_law_329 : decode cL_law 329 = .ok (.iload 6, 2) := by decide +kernel
theorem dL_law_331 : decode cL_law 331 = .ok (.if_icmp .eq 5, 3) := by decide +kernel
theorem dL_law_334 : decode cL_law 334 = .ok (.iconst 0, 1) := by decide +kernel
theorem dL_law_335 : decode cL_law 335 = .ok (.ireturn, 1) := by decide +kernel
theorem dL_law_336 : decode cL_law 336 = .ok (.iload 6, 2) := by decide +kernel
theorem dL_law_338 : decode cL_law 338 = .ok (.ifCond .ne 22, 3) := by decide +kernel
theorem dL_law_341 : decode cL_law 341 = .ok (.aload_n 3, 1) := by decide +kernel
theorem dL_law_342 : decode cL_law 342 = .ok (.iconst 0, 1) := by decide +kernel
theorem dL_law_343 : decode cL_law 343 = .ok (.laload, 1) := by decide +kernel
theorem dL_law_344 : decode cL_law 344 = .ok (.iload 7, 2) := by decide +kernel
theorem dL_law_346 : decode cL_law 346 = .ok (.ifCond .eq 7, 3) := by decide +kernel
theorem dL_law_349 : decode cL_law 349 = .ok (.lconst 1, 1) := by decide +kernel
theorem dL_law_350 : decode cL_law 350 = .ok (.goto 4, 3) := by decide +kernel
theorem dL_law_353 : decode cL_law 353 = .ok (.lconst 0, 1) := by decide +kernel
theorem dL_law_354 : decode cL_law 354 = .ok (.lcmp, 1) := by decide +kernel
theorem dL_law_355 : decode cL_law 355 = .ok (.ifCond .eq 5, 3) := by decide +kernel
theorem dL_law_358 : decode cL_law 358 = .ok (.iconst 0, 1) := by decide +kernel
theorem dL_law_359 : decode cL_law 359 = .ok (.ireturn, 1) := by decide +kernel
theorem dL_law_360 : decode cL_law 360 = .ok (.goto 2520, 3) := by decide +kernel
theorem dL_law_363 : decode cL_law 363 = .ok (.aload_n 1, 1) := by decide +kernel
theorem dL_law_364 : decode cL_law 364 = .ok (.aload_n 0, 1) := by decide +kernel
theorem dL_law_365 : decode cL_law 365 = .ok (.iload 5, 2) := by decide +kernel
theorem dL_law_367 : decode cL_law 367 = .ok (.iconst 1, 1) := by decide +kernel
theorem dL_law_368 : decode cL_law 368 = .ok (.iadd, 1) := by decide +kernel
theorem dL_law_369 : decode cL_law 369 = .ok (.iaload, 1) := by decide +kernel
theorem dL_law_370 : decode cL_law 370 = .ok (.aload_n 0, 1) := by decide +kernel
theorem dL_law_371 : decode cL_law 371 = .ok (.iload 5, 2) := by decide +kernel
theorem dL_law_373 : decode cL_law 373 = .ok (.iconst 2, 1) := by decide +kernel
theorem dL_law_374 : decode cL_law 374 = .ok (.iadd, 1) := by decide +kernel
theorem dL_law_375 : decode cL_law 375 = .ok (.iaload, 1) := by decide +kernel
theorem dL_law_376 : decode cL_law 376 = .ok (.aload_n 0, 1) := by decide +kernel
theorem dL_law_377 : decode cL_law 377 = .ok (.iload 5, 2) := by decide +kernel
theorem dL_law_379 : decode cL_law 379 = .ok (.iconst 3, 1) := by decide +kernel
theorem dL_law_380 : decode cL_law 380 = .ok (.iadd, 1) := by decide +kernel
theorem dL_law_381 : decode cL_law 381 = .ok (.iaload, 1) := by decide +kernel
theorem dL_law_382 : decode cL_law 382 = .ok (.aload_n 3, 1) := by decide +kernel
theorem dL_law_383 : decode cL_law 383 = .ok (.invokestatic 158, 3) := by decide +kernel
theorem dL_law_386 : decode cL_law 386 = .ok (.istore 6, 2) := by decide +kernel
theorem dL_law_388 : decode cL_law 388 = .ok (.aload_n 2, 1) := by decide +kernel
theorem dL_law_389 : decode cL_law 389 = .ok (.aload_n 0, 1) := by decide +kernel
theorem dL_law_390 : decode cL_law 390 = .ok (.iload 5, 2) := by decide +kernel
theorem dL_law_392 : decode cL_law 392 = .ok (.iconst 1, 1) := by decide +kernel
theorem dL_law_393 : decode cL_law 393 = .ok (.iadd, 1) := by decide +kernel
theorem dL_law_394 : decode cL_law 394 = .ok (.iaload, 1) := by decide +kernel
theorem dL_law_395 : decode cL_law 395 = .ok (.aload_n 0, 1) := by decide +kernel
theorem dL_law_396 : decode cL_law 396 = .ok (.iload 5, 2) := by decide +kernel
theorem dL_law_398 : decode cL_law 398 = .ok (.iconst 2, 1) := by decide +kernel
theorem dL_law_399 : decode cL_law 399 = .ok (.iadd, 1) := by decide +kernel
theorem dL_law_400 : decode cL_law 400 = .ok (.iaload, 1) := by decide +kernel
theorem dL_law_401 : decode cL_law 401 = .ok (.aload_n 0, 1) := by decide +kernel
theorem dL_law_402 : decode cL_law 402 = .ok (.iload 5, 2) := by decide +kernel
theorem dL_law_404 : decode cL_law 404 = .ok (.iconst 3, 1) := by decide +kernel
theorem dL_law_405 : decode cL_law 405 = .ok (.iadd, 1) := by decide +kernel
theorem dL_law_406 : decode cL_law 406 = .ok (.iaload, 1) := by decide +kernel
theorem dL_law_407 : decode cL_law 407 = .ok (.invokevirtual 160, 3) := by decide +kernel
theorem dL_law_410 : decode cL_law 410 = .ok (.istore 7, 2) := by decide +kernel
theorem dL_law_412 : decode cL_law 412 = .ok (.aload_n 2, 1) := by decide +kernel
theorem dL_law_413 : decode cL_law 413 = .ok (.invokevirtual 151, 3) := by decide +kernel
theorem dL_law_416 : decode cL_law 416 = .ok (.iload 6, 2) := by decide +kernel
theorem dL_law_418 : decode cL_law 418 = .ok (.if_icmp .eq 5, 3) := by decide +kernel
theorem dL_law_421 : decode cL_law 421 = .ok (.iconst 0, 1) := by decide +kernel
theorem dL_law_422 : decode cL_law 422 = .ok (.ireturn, 1) := by decide +kernel
theorem dL_law_423 : decode cL_law 423 = .ok (.iload 6, 2) := by decide +kernel
theorem dL_law_425 : decode cL_law 425 = .ok (.ifCond .ne 15, 3) := by decide +kernel
theorem dL_law_428 : decode cL_law 428 = .ok (.aload_n 3, 1) := by decide +kernel
theorem dL_law_429 : decode cL_law 429 = .ok (.iconst 0, 1) := by decide +kernel
theorem dL_law_430 : decode cL_law 430 = .ok (.laload, 1) := by decide +kernel
theorem dL_law_431 : decode cL_law 431 = .ok (.iload 7, 2) := by decide +kernel
theorem dL_law_433 : decode cL_law 433 = .ok (.i2l, 1) := by decide +kernel
theorem dL_law_434 : decode cL_law 434 = .ok (.lcmp, 1) := by decide +kernel
theorem dL_law_435 : decode cL_law 435 = .ok (.ifCond .eq 5, 3) := by decide +kernel
theorem dL_law_438 : decode cL_law 438 = .ok (.iconst 0, 1) := by decide +kernel
theorem dL_law_439 : decode cL_law 439 = .ok (.ireturn, 1) := by decide +kernel
theorem dL_law_440 : decode cL_law 440 = .ok (.goto 2440, 3) := by decide +kernel
theorem dL_law_443 : decode cL_law 443 = .ok (.aload_n 1, 1) := by decide +kernel
theorem dL_law_444 : decode cL_law 444 = .ok (.aload_n 0, 1) := by decide +kernel
theorem dL_law_445 : decode cL_law 445 = .ok (.iload 5, 2) := by decide +kernel
theorem dL_law_447 : decode cL_law 447 = .ok (.iconst 1, 1) := by decide +kernel
theorem dL_law_448 : decode cL_law 448 = .ok (.iadd, 1) := by decide +kernel
theorem dL_law_449 : decode cL_law 449 = .ok (.iaload, 1) := by decide +kernel
theorem dL_law_450 : decode cL_law 450 = .ok (.aload_n 0, 1) := by decide +kernel
theorem dL_law_451 : decode cL_law 451 = .ok (.iload 5, 2) := by decide +kernel
theorem dL_law_453 : decode cL_law 453 = .ok (.iconst 2, 1) := by decide +kernel
theorem dL_law_454 : decode cL_law 454 = .ok (.iadd, 1) := by decide +kernel
theorem dL_law_455 : decode cL_law 455 = .ok (.iaload, 1) := by decide +kernel
theorem dL_law_456 : decode cL_law 456 = .ok (.aload_n 0, 1) := by decide +kernel
theorem dL_law_457 : decode cL_law 457 = .ok (.iload 5, 2) := by decide +kernel
theorem dL_law_459 : decode cL_law 459 = .ok (.iconst 3, 1) := by decide +kernel
theorem dL_law_460 : decode cL_law 460 = .ok (.iadd, 1) := by decide +kernel
theorem dL_law_461 : decode cL_law 461 = .ok (.iaload, 1) := by decide +kernel
theorem dL_law_462 : decode cL_law 462 = .ok (.aload_n 3, 1) := by decide +kernel
theorem dL_law_463 : decode cL_law 463 = .ok (.invokestatic 161, 3) := by decide +kernel
theorem dL_law_466 : decode cL_law 466 = .ok (.istore 6, 2) := by decide +kernel
theorem dL_law_468 : decode cL_law 468 = .ok (.aload_n 2, 1) := by decide +kernel
theorem dL_law_469 : decode cL_law 469 = .ok (.aload_n 0, 1) := by decide +kernel
theorem dL_law_470 : decode cL_law 470 = .ok (.iload 5, 2) := by decide +kernel
theorem dL_law_472 : decode cL_law 472 = .ok (.iconst 1, 1) := by decide +kernel
theorem dL_law_473 : decode cL_law 473 = .ok (.iadd, 1) := by decide +kernel
theorem dL_law_474 : decode cL_law 474 = .ok (.iaload, 1) := by decide +kernel
theorem dL_law_475 : decode cL_law 475 = .ok (.aload_n 0, 1) := by decide +kernel
theorem dL_law_476 : decode cL_law 476 = .ok (.iload 5, 2) := by decide +kernel
theorem dL_law_478 : decode cL_law 478 = .ok (.iconst 2, 1) := by decide +kernel
theorem dL_law_479 : decode cL_law 479 = .ok (.iadd, 1) := by decide +kernel
theorem dL_law_480 : decode cL_law 480 = .ok (.iaload, 1) := by decide +kernel
theorem dL_law_481 : decode cL_law 481 = .ok (.aload_n 0, 1) := by decide +kernel
theorem dL_law_482 : decode cL_law 482 = .ok (.iload 5, 2) := by decide +kernel
theorem dL_law_484 : decode cL_law 484 = .ok (.iconst 3, 1) := by decide +kernel
theorem dL_law_485 : decode cL_law 485 = .ok (.iadd, 1) := by decide +kernel
theorem dL_law_486 : decode cL_law 486 = .ok (.iaload, 1) := by decide +kernel
theorem dL_law_487 : decode cL_law 487 = .ok (.invokevirtual 163, 3) := by decide +kernel
theorem dL_law_490 : decode cL_law 490 = .ok (.istore 7, 2) := by decide +kernel
theorem dL_law_492 : decode cL_law 492 = .ok (.aload_n 2, 1) := by decide +kernel
theorem dL_law_493 : decode cL_law 493 = .ok (.invokevirtual 151, 3) := by decide +kernel
theorem dL_law_496 : decode cL_law 496 = .ok (.iload 6, 2) := by decide +kernel
theorem dL_law_498 : decode cL_law 498 = .ok (.if_icmp .eq 5, 3) := by decide +kernel
theorem dL_law_501 : decode cL_law 501 = .ok (.iconst 0, 1) := by decide +kernel
theorem dL_law_502 : decode cL_law 502 = .ok (.ireturn, 1) := by decide +kernel
theorem dL_law_503 : decode cL_law 503 = .ok (.iload 6, 2) := by decide +kernel
theorem dL_law_505 : decode cL_law 505 = .ok (.ifCond .ne 15, 3) := by decide +kernel
theorem dL_law_508 : decode cL_law 508 = .ok (.aload_n 3, 1) := by decide +kernel
theorem dL_law_509 : decode cL_law 509 = .ok (.iconst 0, 1) := by decide +kernel
theorem dL_law_510 : decode cL_law 510 = .ok (.laload, 1) := by decide +kernel
theorem dL_law_511 : decode cL_law 511 = .ok (.iload 7, 2) := by decide +kernel
theorem dL_law_513 : decode cL_law 513 = .ok (.i2l, 1) := by decide +kernel
theorem dL_law_514 : decode cL_law 514 = .ok (.lcmp, 1) := by decide +kernel
theorem dL_law_515 : decode cL_law 515 = .ok (.ifCond .eq 5, 3) := by decide +kernel
theorem dL_law_518 : decode cL_law 518 = .ok (.iconst 0, 1) := by decide +kernel
theorem dL_law_519 : decode cL_law 519 = .ok (.ireturn, 1) := by decide +kernel
theorem dL_law_520 : decode cL_law 520 = .ok (.goto 2360, 3) := by decide +kernel
theorem dL_law_523 : decode cL_law 523 = .ok (.aload_n 1, 1) := by decide +kernel
theorem dL_law_524 : decode cL_law 524 = .ok (.aload_n 0, 1) := by decide +kernel
theorem dL_law_525 : decode cL_law 525 = .ok (.iload 5, 2) := by decide +kernel
theorem dL_law_527 : decode cL_law 527 = .ok (.iconst 1, 1) := by decide +kernel
theorem dL_law_528 : decode cL_law 528 = .ok (.iadd, 1) := by decide +kernel
theorem dL_law_529 : decode cL_law 529 = .ok (.iaload, 1) := by decide +kernel
theorem dL_law_530 : decode cL_law 530 = .ok (.aload_n 0, 1) := by decide +kernel
theorem dL_law_531 : decode cL_law 531 = .ok (.iload 5, 2) := by decide +kernel
theorem dL_law_533 : decode cL_law 533 = .ok (.iconst 2, 1) := by decide +kernel
theorem dL_law_534 : decode cL_law 534 = .ok (.iadd, 1) := by decide +kernel
theorem dL_law_535 : decode cL_law 535 = .ok (.iaload, 1) := by decide +kernel
theorem dL_law_536 : decode cL_law 536 = .ok (.aload_n 3, 1) := by decide +kernel
theorem dL_law_537 : decode cL_law 537 = .ok (.invokestatic 164, 3) := by decide +kernel
theorem dL_law_540 : decode cL_law 540 = .ok (.istore 6, 2) := by decide +kernel
theorem dL_law_542 : decode cL_law 542 = .ok (.aload_n 2, 1) := by decide +kernel
theorem dL_law_543 : decode cL_law 543 = .ok (.aload_n 0, 1) := by decide +kernel
theorem dL_law_544 : decode cL_law 544 = .ok (.iload 5, 2) := by decide +kernel
theorem dL_law_546 : decode cL_law 546 = .ok (.iconst 1, 1) := by decide +kernel
theorem dL_law_547 : decode cL_law 547 = .ok (.iadd, 1) := by decide +kernel
theorem dL_law_548 : decode cL_law 548 = .ok (.iaload, 1) := by decide +kernel
theorem dL_law_549 : decode cL_law 549 = .ok (.aload_n 0, 1) := by decide +kernel
theorem dL_law_550 : decode cL_law 550 = .ok (.iload 5, 2) := by decide +kernel
theorem dL_law_552 : decode cL_law 552 = .ok (.iconst 2, 1) := by decide +kernel
theorem dL_law_553 : decode cL_law 553 = .ok (.iadd, 1) := by decide +kernel
theorem dL_law_554 : decode cL_law 554 = .ok (.iaload, 1) := by decide +kernel
theorem dL_law_555 : decode cL_law 555 = .ok (.invokevirtual 167, 3) := by decide +kernel
theorem dL_law_558 : decode cL_law 558 = .ok (.istore 7, 2) := by decide +kernel
theorem dL_law_560 : decode cL_law 560 = .ok (.aload_n 2, 1) := by decide +kernel
theorem dL_law_561 : decode cL_law 561 = .ok (.invokevirtual 151, 3) := by decide +kernel
theorem dL_law_564 : decode cL_law 564 = .ok (.iload 6, 2) := by decide +kernel
theorem dL_law_566 : decode cL_law 566 = .ok (.if_icmp .eq 5, 3) := by decide +kernel
theorem dL_law_569 : decode cL_law 569 = .ok (.iconst 0, 1) := by decide +kernel
theorem dL_law_570 : decode cL_law 570 = .ok (.ireturn, 1) := by decide +kernel
theorem dL_law_571 : decode cL_law 571 = .ok (.iload 6, 2) := by decide +kernel
theorem dL_law_573 : decode cL_law 573 = .ok (.ifCond .ne 22, 3) := by decide +kernel
theorem dL_law_576 : decode cL_law 576 = .ok (.aload_n 3, 1) := by decide +kernel
theorem dL_law_577 : decode cL_law 577 = .ok (.iconst 0, 1) := by decide +kernel
theorem dL_law_578 : decode cL_law 578 = .ok (.laload, 1) := by decide +kernel
theorem dL_law_579 : decode cL_law 579 = .ok (.iload 7, 2) := by decide +kernel
theorem dL_law_581 : decode cL_law 581 = .ok (.ifCond .eq 7, 3) := by decide +kernel
theorem dL_law_584 : decode cL_law 584 = .ok (.lconst 1, 1) := by decide +kernel
theorem dL_law_585 : decode cL_law 585 = .ok (.goto 4, 3) := by decide +kernel
theorem dL_law_588 : decode cL_law 588 = .ok (.lconst 0, 1) := by decide +kernel
theorem dL_law_589 : decode cL_law 589 = .ok (.lcmp, 1) := by decide +kernel
theorem dL_law_590 : decode cL_law 590 = .ok (.ifCond .eq 5, 3) := by decide +kernel
theorem dL_law_593 : decode cL_law 593 = .ok (.iconst 0, 1) := by decide +kernel
theorem dL_law_594 : decode cL_law 594 = .ok (.ireturn, 1) := by decide +kernel
theorem dL_law_595 : decode cL_law 595 = .ok (.goto 2285, 3) := by decide +kernel
theorem dL_law_598 : decode cL_law 598 = .ok (.aload_n 1, 1) := by decide +kernel
theorem dL_law_599 : decode cL_law 599 = .ok (.aload_n 0, 1) := by decide +kernel
theorem dL_law_600 : decode cL_law 600 = .ok (.iload 5, 2) := by decide +kernel
theorem dL_law_602 : decode cL_law 602 = .ok (.iconst 1, 1) := by decide +kernel
theorem dL_law_603 : decode cL_law 603 = .ok (.iadd, 1) := by decide +kernel
theorem dL_law_604 : decode cL_law 604 = .ok (.iaload, 1) := by decide +kernel
theorem dL_law_605 : decode cL_law 605 = .ok (.aload_n 0, 1) := by decide +kernel
theorem dL_law_606 : decode cL_law 606 = .ok (.iload 5, 2) := by decide +kernel
theorem dL_law_608 : decode cL_law 608 = .ok (.iconst 2, 1) := by decide +kernel
theorem dL_law_609 : decode cL_law 609 = .ok (.iadd, 1) := by decide +kernel
theorem dL_law_610 : decode cL_law 610 = .ok (.iaload, 1) := by decide +kernel
theorem dL_law_611 : decode cL_law 611 = .ok (.aload_n 3, 1) := by decide +kernel
theorem dL_law_612 : decode cL_law 612 = .ok (.invokestatic 168, 3) := by decide +kernel
theorem dL_law_615 : decode cL_law 615 = .ok (.istore 6, 2) := by decide +kernel
theorem dL_law_617 : decode cL_law 617 = .ok (.aload_n 2, 1) := by decide +kernel
theorem dL_law_618 : decode cL_law 618 = .ok (.aload_n 0, 1) := by decide +kernel
theorem dL_law_619 : decode cL_law 619 = .ok (.iload 5, 2) := by decide +kernel
theorem dL_law_621 : decode cL_law 621 = .ok (.iconst 1, 1) := by decide +kernel
theorem dL_law_622 : decode cL_law 622 = .ok (.iadd, 1) := by decide +kernel
theorem dL_law_623 : decode cL_law 623 = .ok (.iaload, 1) := by decide +kernel
theorem dL_law_624 : decode cL_law 624 = .ok (.aload_n 0, 1) := by decide +kernel
theorem dL_law_625 : decode cL_law 625 = .ok (.iload 5, 2) := by decide +kernel
theorem dL_law_627 : decode cL_law 627 = .ok (.iconst 2, 1) := by decide +kernel
theorem dL_law_628 : decode cL_law 628 = .ok (.iadd, 1) := by decide +kernel
theorem dL_law_629 : decode cL_law 629 = .ok (.iaload, 1) := by decide +kernel
theorem dL_law_630 : decode cL_law 630 = .ok (.invokevirtual 170, 3) := by decide +kernel
theorem dL_law_633 : decode cL_law 633 = .ok (.istore 7, 2) := by decide +kernel
theorem dL_law_635 : decode cL_law 635 = .ok (.aload_n 2, 1) := by decide +kernel
theorem dL_law_636 : decode cL_law 636 = .ok (.invokevirtual 151, 3) := by decide +kernel
theorem dL_law_639 : decode cL_law 639 = .ok (.iload 6, 2) := by decide +kernel
theorem dL_law_641 : decode cL_law 641 = .ok (.if_icmp .eq 5, 3) := by decide +kernel
theorem dL_law_644 : decode cL_law 644 = .ok (.iconst 0, 1) := by decide +kernel
theorem dL_law_645 : decode cL_law 645 = .ok (.ireturn, 1) := by decide +kernel
theorem dL_law_646 : decode cL_law 646 = .ok (.iload 6, 2) := by decide +kernel
theorem dL_law_648 : decode cL_law 648 = .ok (.ifCond .ne 15, 3) := by decide +kernel
theorem dL_law_651 : decode cL_law 651 = .ok (.aload_n 3, 1) := by decide +kernel
theorem dL_law_652 : decode cL_law 652 = .ok (.iconst 0, 1) := by decide +kernel
theorem dL_law_653 : decode cL_law 653 = .ok (.laload, 1) := by decide +kernel
theorem dL_law_654 : decode cL_law 654 = .ok (.iload 7, 2) := by decide +kernel
theorem dL_law_656 : decode cL_law 656 = .ok (.i2l, 1) := by decide +kernel
theorem dL_law_657 : decode cL_law 657 = .ok (.lcmp, 1) := by decide +kernel
theorem dL_law_658 : decode cL_law 658 = .ok (.ifCond .eq 5, 3) := by decide +kernel
theorem dL_law_661 : decode cL_law 661 = .ok (.iconst 0, 1) := by decide +kernel
theorem dL_law_662 : decode cL_law 662 = .ok (.ireturn, 1) := by decide +kernel
theorem dL_law_663 : decode cL_law 663 = .ok (.goto 2217, 3) := by decide +kernel
theorem dL_law_666 : decode cL_law 666 = .ok (.aload_n 1, 1) := by decide +kernel
theorem dL_law_667 : decode cL_law 667 = .ok (.aload_n 0, 1) := by decide +kernel
theorem dL_law_668 : decode cL_law 668 = .ok (.iload 5, 2) := by decide +kernel
theorem dL_law_670 : decode cL_law 670 = .ok (.iconst 1, 1) := by decide +kernel
theorem dL_law_671 : decode cL_law 671 = .ok (.iadd, 1) := by decide +kernel
theorem dL_law_672 : decode cL_law 672 = .ok (.iaload, 1) := by decide +kernel
theorem dL_law_673 : decode cL_law 673 = .ok (.aload_n 0, 1) := by decide +kernel
theorem dL_law_674 : decode cL_law 674 = .ok (.iload 5, 2) := by decide +kernel
theorem dL_law_676 : decode cL_law 676 = .ok (.iconst 2, 1) := by decide +kernel
theorem dL_law_677 : decode cL_law 677 = .ok (.iadd, 1) := by decide +kernel
theorem dL_law_678 : decode cL_law 678 = .ok (.iaload, 1) := by decide +kernel
theorem dL_law_679 : decode cL_law 679 = .ok (.aload_n 0, 1) := by decide +kernel
theorem dL_law_680 : decode cL_law 680 = .ok (.iload 5, 2) := by decide +kernel
theorem dL_law_682 : decode cL_law 682 = .ok (.iconst 3, 1) := by decide +kernel
theorem dL_law_683 : decode cL_law 683 = .ok (.iadd, 1) := by decide +kernel
theorem dL_law_684 : decode cL_law 684 = .ok (.iaload, 1) := by decide +kernel
theorem dL_law_685 : decode cL_law 685 = .ok (.aload_n 3, 1) := by decide +kernel
theorem dL_law_686 : decode cL_law 686 = .ok (.invokestatic 171, 3) := by decide +kernel
theorem dL_law_689 : decode cL_law 689 = .ok (.istore 6, 2) := by decide +kernel
theorem dL_law_691 : decode cL_law 691 = .ok (.aload_n 2, 1) := by decide +kernel
theorem dL_law_692 : decode cL_law 692 = .ok (.aload_n 0, 1) := by decide +kernel
theorem dL_law_693 : decode cL_law 693 = .ok (.iload 5, 2) := by decide +kernel
theorem dL_law_695 : decode cL_law 695 = .ok (.iconst 1, 1) := by decide +kernel
theorem dL_law_696 : decode cL_law 696 = .ok (.iadd, 1) := by decide +kernel
theorem dL_law_697 : decode cL_law 697 = .ok (.iaload, 1) := by decide +kernel
theorem dL_law_698 : decode cL_law 698 = .ok (.aload_n 0, 1) := by decide +kernel
theorem dL_law_699 : decode cL_law 699 = .ok (.iload 5, 2) := by decide +kernel
theorem dL_law_701 : decode cL_law 701 = .ok (.iconst 2, 1) := by decide +kernel
theorem dL_law_702 : decode cL_law 702 = .ok (.iadd, 1) := by decide +kernel
theorem dL_law_703 : decode cL_law 703 = .ok (.iaload, 1) := by decide +kernel
theorem dL_law_704 : decode cL_law 704 = .ok (.aload_n 0, 1) := by decide +kernel
theorem dL_law_705 : decode cL_law 705 = .ok (.iload 5, 2) := by decide +kernel
theorem dL_law_707 : decode cL_law 707 = .ok (.iconst 3, 1) := by decide +kernel
theorem dL_law_708 : decode cL_law 708 = .ok (.iadd, 1) := by decide +kernel
theorem dL_law_709 : decode cL_law 709 = .ok (.iaload, 1) := by decide +kernel
theorem dL_law_710 : decode cL_law 710 = .ok (.invokevirtual 173, 3) := by decide +kernel
theorem dL_law_713 : decode cL_law 713 = .ok (.istore 7, 2) := by decide +kernel
theorem dL_law_715 : decode cL_law 715 = .ok (.aload_n 2, 1) := by decide +kernel
theorem dL_law_716 : decode cL_law 716 = .ok (.invokevirtual 151, 3) := by decide +kernel
theorem dL_law_719 : decode cL_law 719 = .ok (.iload 6, 2) := by decide +kernel
theorem dL_law_721 : decode cL_law 721 = .ok (.if_icmp .eq 5, 3) := by decide +kernel
theorem dL_law_724 : decode cL_law 724 = .ok (.iconst 0, 1) := by decide +kernel
theorem dL_law_725 : decode cL_law 725 = .ok (.ireturn, 1) := by decide +kernel
theorem dL_law_726 : decode cL_law 726 = .ok (.iload 6, 2) := by decide +kernel
theorem dL_law_728 : decode cL_law 728 = .ok (.ifCond .ne 22, 3) := by decide +kernel
theorem dL_law_731 : decode cL_law 731 = .ok (.aload_n 3, 1) := by decide +kernel
theorem dL_law_732 : decode cL_law 732 = .ok (.iconst 0, 1) := by decide +kernel
theorem dL_law_733 : decode cL_law 733 = .ok (.laload, 1) := by decide +kernel
theorem dL_law_734 : decode cL_law 734 = .ok (.iload 7, 2) := by decide +kernel
theorem dL_law_736 : decode cL_law 736 = .ok (.ifCond .eq 7, 3) := by decide +kernel
theorem dL_law_739 : decode cL_law 739 = .ok (.lconst 1, 1) := by decide +kernel
theorem dL_law_740 : decode cL_law 740 = .ok (.goto 4, 3) := by decide +kernel
theorem dL_law_743 : decode cL_law 743 = .ok (.lconst 0, 1) := by decide +kernel
theorem dL_law_744 : decode cL_law 744 = .ok (.lcmp, 1) := by decide +kernel
theorem dL_law_745 : decode cL_law 745 = .ok (.ifCond .eq 5, 3) := by decide +kernel
theorem dL_law_748 : decode cL_law 748 = .ok (.iconst 0, 1) := by decide +kernel
theorem dL_law_749 : decode cL_law 749 = .ok (.ireturn, 1) := by decide +kernel
theorem dL_law_750 : decode cL_law 750 = .ok (.goto 2130, 3) := by decide +kernel
theorem dL_law_753 : decode cL_law 753 = .ok (.aload_n 1, 1) := by decide +kernel
theorem dL_law_754 : decode cL_law 754 = .ok (.aload_n 0, 1) := by decide +kernel
theorem dL_law_755 : decode cL_law 755 = .ok (.iload 5, 2) := by decide +kernel
theorem dL_law_757 : decode cL_law 757 = .ok (.iconst 1, 1) := by decide +kernel
theorem dL_law_758 : decode cL_law 758 = .ok (.iadd, 1) := by decide +kernel
theorem dL_law_759 : decode cL_law 759 = .ok (.iaload, 1) := by decide +kernel
theorem dL_law_760 : decode cL_law 760 = .ok (.aload_n 0, 1) := by decide +kernel
theorem dL_law_761 : decode cL_law 761 = .ok (.iload 5, 2) := by decide +kernel
theorem dL_law_763 : decode cL_law 763 = .ok (.iconst 2, 1) := by decide +kernel
theorem dL_law_764 : decode cL_law 764 = .ok (.iadd, 1) := by decide +kernel
theorem dL_law_765 : decode cL_law 765 = .ok (.iaload, 1) := by decide +kernel
theorem dL_law_766 : decode cL_law 766 = .ok (.aload_n 3, 1) := by decide +kernel
theorem dL_law_767 : decode cL_law 767 = .ok (.invokestatic 174, 3) := by decide +kernel
theorem dL_law_770 : decode cL_law 770 = .ok (.istore 6, 2) := by decide +kernel
theorem dL_law_772 : decode cL_law 772 = .ok (.aload_n 2, 1) := by decide +kernel
theorem dL_law_773 : decode cL_law 773 = .ok (.aload_n 0, 1) := by decide +kernel
theorem dL_law_774 : decode cL_law 774 = .ok (.iload 5, 2) := by decide +kernel
theorem dL_law_776 : decode cL_law 776 = .ok (.iconst 1, 1) := by decide +kernel
theorem dL_law_777 : decode cL_law 777 = .ok (.iadd, 1) := by decide +kernel
theorem dL_law_778 : decode cL_law 778 = .ok (.iaload, 1) := by decide +kernel
theorem dL_law_779 : decode cL_law 779 = .ok (.aload_n 0, 1) := by decide +kernel
theorem dL_law_780 : decode cL_law 780 = .ok (.iload 5, 2) := by decide +kernel
theorem dL_law_782 : decode cL_law 782 = .ok (.iconst 2, 1) := by decide +kernel
theorem dL_law_783 : decode cL_law 783 = .ok (.iadd, 1) := by decide +kernel
theorem dL_law_784 : decode cL_law 784 = .ok (.iaload, 1) := by decide +kernel
theorem dL_law_785 : decode cL_law 785 = .ok (.invokevirtual 176, 3) := by decide +kernel
theorem dL_law_788 : decode cL_law 788 = .ok (.istore 7, 2) := by decide +kernel
theorem dL_law_790 : decode cL_law 790 = .ok (.aload_n 2, 1) := by decide +kernel
theorem dL_law_791 : decode cL_law 791 = .ok (.invokevirtual 151, 3) := by decide +kernel
theorem dL_law_794 : decode cL_law 794 = .ok (.iload 6, 2) := by decide +kernel
theorem dL_law_796 : decode cL_law 796 = .ok (.if_icmp .eq 5, 3) := by decide +kernel
theorem dL_law_799 : decode cL_law 799 = .ok (.iconst 0, 1) := by decide +kernel
theorem dL_law_800 : decode cL_law 800 = .ok (.ireturn, 1) := by decide +kernel
theorem dL_law_801 : decode cL_law 801 = .ok (.iload 6, 2) := by decide +kernel
theorem dL_law_803 : decode cL_law 803 = .ok (.ifCond .ne 15, 3) := by decide +kernel
theorem dL_law_806 : decode cL_law 806 = .ok (.aload_n 3, 1) := by decide +kernel
theorem dL_law_807 : decode cL_law 807 = .ok (.iconst 0, 1) := by decide +kernel
theorem dL_law_808 : decode cL_law 808 = .ok (.laload, 1) := by decide +kernel
theorem dL_law_809 : decode cL_law 809 = .ok (.iload 7, 2) := by decide +kernel
theorem dL_law_811 : decode cL_law 811 = .ok (.i2l, 1) := by decide +kernel
theorem dL_law_812 : decode cL_law 812 = .ok (.lcmp, 1) := by decide +kernel
theorem dL_law_813 : decode cL_law 813 = .ok (.ifCond .eq 5, 3) := by decide +kernel
theorem dL_law_816 : decode cL_law 816 = .ok (.iconst 0, 1) := by decide +kernel
theorem dL_law_817 : decode cL_law 817 = .ok (.ireturn, 1) := by decide +kernel
theorem dL_law_818 : decode cL_law 818 = .ok (.goto 2062, 3) := by decide +kernel
theorem dL_law_821 : decode cL_law 821 = .ok (.aload_n 1, 1) := by decide +kernel
theorem dL_law_822 : decode cL_law 822 = .ok (.aload_n 0, 1) := by decide +kernel
theorem dL_law_823 : decode cL_law 823 = .ok (.iload 5, 2) := by decide +kernel
theorem dL_law_825 : decode cL_law 825 = .ok (.iconst 1, 1) := by decide +kernel
theorem dL_law_826 : decode cL_law 826 = .ok (.iadd, 1) := by decide +kernel
theorem dL_law_827 : decode cL_law 827 = .ok (.iaload, 1) := by decide +kernel
theorem dL_law_828 : decode cL_law 828 = .ok (.aload_n 0, 1) := by decide +kernel
theorem dL_law_829 : decode cL_law 829 = .ok (.iload 5, 2) := by decide +kernel
theorem dL_law_831 : decode cL_law 831 = .ok (.iconst 2, 1) := by decide +kernel
theorem dL_law_832 : decode cL_law 832 = .ok (.iadd, 1) := by decide +kernel
theorem dL_law_833 : decode cL_law 833 = .ok (.iaload, 1) := by decide +kernel
theorem dL_law_834 : decode cL_law 834 = .ok (.aload_n 0, 1) := by decide +kernel
theorem dL_law_835 : decode cL_law 835 = .ok (.iload 5, 2) := by decide +kernel
theorem dL_law_837 : decode cL_law 837 = .ok (.iconst 3, 1) := by decide +kernel
theorem dL_law_838 : decode cL_law 838 = .ok (.iadd, 1) := by decide +kernel
theorem dL_law_839 : decode cL_law 839 = .ok (.iaload, 1) := by decide +kernel
theorem dL_law_840 : decode cL_law 840 = .ok (.aload_n 3, 1) := by decide +kernel
theorem dL_law_841 : decode cL_law 841 = .ok (.invokestatic 177, 3) := by decide +kernel
theorem dL_law_844 : decode cL_law 844 = .ok (.istore 6, 2) := by decide +kernel
theorem dL_law_846 : decode cL_law 846 = .ok (.aload_n 2, 1) := by decide +kernel
theorem dL_law_847 : decode cL_law 847 = .ok (.aload_n 0, 1) := by decide +kernel
theorem dL_law_848 : decode cL_law 848 = .ok (.iload 5, 2) := by decide +kernel
theorem dL_law_850 : decode cL_law 850 = .ok (.iconst 1, 1) := by decide +kernel
end
section
theorem dL_law_851 : decode cL_law 851 = .ok (.iadd, 1) := by decide +kernel
theorem dL_law_852 : decode cL_law 852 = .ok (.iaload, 1) := by decide +kernel
theorem dL_law_853 : decode cL_law 853 = .ok (.aload_n 0, 1) := by decide +kernel
theorem dL_law_854 : decode cL_law 854 = .ok (.iload 5, 2) := by decide +kernel
theorem dL_law_856 : decode cL_law 856 = .ok (.iconst 2, 1) := by decide +kernel
theorem dL_law_857 : decode cL_law 857 = .ok (.iadd, 1) := by decide +kernel
theorem dL_law_858 : decode cL_law 858 = .ok (.iaload, 1) := by decide +kernel
theorem dL_law_859 : decode cL_law 859 = .ok (.aload_n 0, 1) := by decide +kernel
theorem dL_law_860 : decode cL_law 860 = .ok (.iload 5, 2) := by decide +kernel
theorem dL_law_862 : decode cL_law 862 = .ok (.iconst 3, 1) := by decide +kernel
theorem dL_law_863 : decode cL_law 863 = .ok (.iadd, 1) := by decide +kernel
theorem dL_law_864 : decode cL_law 864 = .ok (.iaload, 1) := by decide +kernel
theorem dL_law_865 : decode cL_law 865 = .ok (.invokevirtual 179, 3) := by decide +kernel
theorem dL_law_868 : decode cL_law 868 = .ok (.istore 7, 2) := by decide +kernel
theorem dL_law_870 : decode cL_law 870 = .ok (.aload_n 2, 1) := by decide +kernel
theorem dL_law_871 : decode cL_law 871 = .ok (.invokevirtual 151, 3) := by decide +kernel
theorem dL_law_874 : decode cL_law 874 = .ok (.iload 6, 2) := by decide +kernel
theorem dL_law_876 : decode cL_law 876 = .ok (.if_icmp .eq 5, 3) := by decide +kernel
theorem dL_law_879 : decode cL_law 879 = .ok (.iconst 0, 1) := by decide +kernel
theorem dL_law_880 : decode cL_law 880 = .ok (.ireturn, 1) := by decide +kernel
theorem dL_law_881 : decode cL_law 881 = .ok (.iload 6, 2) := by decide +kernel
theorem dL_law_883 : decode cL_law 883 = .ok (.ifCond .ne 22, 3) := by decide +kernel
theorem dL_law_886 : decode cL_law 886 = .ok (.aload_n 3, 1) := by decide +kernel
theorem dL_law_887 : decode cL_law 887 = .ok (.iconst 0, 1) := by decide +kernel
theorem dL_law_888 : decode cL_law 888 = .ok (.laload, 1) := by decide +kernel
theorem dL_law_889 : decode cL_law 889 = .ok (.iload 7, 2) := by decide +kernel
theorem dL_law_891 : decode cL_law 891 = .ok (.ifCond .eq 7, 3) := by decide +kernel
theorem dL_law_894 : decode cL_law 894 = .ok (.lconst 1, 1) := by decide +kernel
theorem dL_law_895 : decode cL_law 895 = .ok (.goto 4, 3) := by decide +kernel
theorem dL_law_898 : decode cL_law 898 = .ok (.lconst 0, 1) := by decide +kernel
theorem dL_law_899 : decode cL_law 899 = .ok (.lcmp, 1) := by decide +kernel
theorem dL_law_900 : decode cL_law 900 = .ok (.ifCond .eq 5, 3) := by decide +kernel
theorem dL_law_903 : decode cL_law 903 = .ok (.iconst 0, 1) := by decide +kernel
theorem dL_law_904 : decode cL_law 904 = .ok (.ireturn, 1) := by decide +kernel
theorem dL_law_905 : decode cL_law 905 = .ok (.goto 1975, 3) := by decide +kernel
theorem dL_law_908 : decode cL_law 908 = .ok (.aload_n 1, 1) := by decide +kernel
theorem dL_law_909 : decode cL_law 909 = .ok (.aload_n 0, 1) := by decide +kernel
theorem dL_law_910 : decode cL_law 910 = .ok (.iload 5, 2) := by decide +kernel
theorem dL_law_912 : decode cL_law 912 = .ok (.iconst 1, 1) := by decide +kernel
theorem dL_law_913 : decode cL_law 913 = .ok (.iadd, 1) := by decide +kernel
theorem dL_law_914 : decode cL_law 914 = .ok (.iaload, 1) := by decide +kernel
theorem dL_law_915 : decode cL_law 915 = .ok (.aload_n 0, 1) := by decide +kernel
theorem dL_law_916 : decode cL_law 916 = .ok (.iload 5, 2) := by decide +kernel
theorem dL_law_918 : decode cL_law 918 = .ok (.iconst 2, 1) := by decide +kernel
theorem dL_law_919 : decode cL_law 919 = .ok (.iadd, 1) := by decide +kernel
theorem dL_law_920 : decode cL_law 920 = .ok (.iaload, 1) := by decide +kernel
theorem dL_law_921 : decode cL_law 921 = .ok (.aload_n 0, 1) := by decide +kernel
theorem dL_law_922 : decode cL_law 922 = .ok (.iload 5, 2) := by decide +kernel
theorem dL_law_924 : decode cL_law 924 = .ok (.iconst 3, 1) := by decide +kernel
theorem dL_law_925 : decode cL_law 925 = .ok (.iadd, 1) := by decide +kernel
theorem dL_law_926 : decode cL_law 926 = .ok (.iaload, 1) := by decide +kernel
theorem dL_law_927 : decode cL_law 927 = .ok (.aload_n 0, 1) := by decide +kernel
theorem dL_law_928 : decode cL_law 928 = .ok (.iload 5, 2) := by decide +kernel
theorem dL_law_930 : decode cL_law 930 = .ok (.iconst 4, 1) := by decide +kernel
theorem dL_law_931 : decode cL_law 931 = .ok (.iadd, 1) := by decide +kernel
theorem dL_law_932 : decode cL_law 932 = .ok (.iaload, 1) := by decide +kernel
theorem dL_law_933 : decode cL_law 933 = .ok (.aload_n 3, 1) := by decide +kernel
theorem dL_law_934 : decode cL_law 934 = .ok (.invokestatic 180, 3) := by decide +kernel
theorem dL_law_937 : decode cL_law 937 = .ok (.istore 6, 2) := by decide +kernel
theorem dL_law_939 : decode cL_law 939 = .ok (.aload_n 2, 1) := by decide +kernel
theorem dL_law_940 : decode cL_law 940 = .ok (.aload_n 0, 1) := by decide +kernel
theorem dL_law_941 : decode cL_law 941 = .ok (.iload 5, 2) := by decide +kernel
theorem dL_law_943 : decode cL_law 943 = .ok (.iconst 1, 1) := by decide +kernel
theorem dL_law_944 : decode cL_law 944 = .ok (.iadd, 1) := by decide +kernel
theorem dL_law_945 : decode cL_law 945 = .ok (.iaload, 1) := by decide +kernel
theorem dL_law_946 : decode cL_law 946 = .ok (.aload_n 0, 1) := by decide +kernel
theorem dL_law_947 : decode cL_law 947 = .ok (.iload 5, 2) := by decide +kernel
theorem dL_law_949 : decode cL_law 949 = .ok (.iconst 2, 1) := by decide +kernel
theorem dL_law_950 : decode cL_law 950 = .ok (.iadd, 1) := by decide +kernel
theorem dL_law_951 : decode cL_law 951 = .ok (.iaload, 1) := by decide +kernel
theorem dL_law_952 : decode cL_law 952 = .ok (.aload_n 0, 1) := by decide +kernel
theorem dL_law_953 : decode cL_law 953 = .ok (.iload 5, 2) := by decide +kernel
theorem dL_law_955 : decode cL_law 955 = .ok (.iconst 3, 1) := by decide +kernel
theorem dL_law_956 : decode cL_law 956 = .ok (.iadd, 1) := by decide +kernel
theorem dL_law_957 : decode cL_law 957 = .ok (.iaload, 1) := by decide +kernel
theorem dL_law_958 : decode cL_law 958 = .ok (.aload_n 0, 1) := by decide +kernel
theorem dL_law_959 : decode cL_law 959 = .ok (.iload 5, 2) := by decide +kernel
theorem dL_law_961 : decode cL_law 961 = .ok (.iconst 4, 1) := by decide +kernel
theorem dL_law_962 : decode cL_law 962 = .ok (.iadd, 1) := by decide +kernel
theorem dL_law_963 : decode cL_law 963 = .ok (.iaload, 1) := by decide +kernel
theorem dL_law_964 : decode cL_law 964 = .ok (.invokevirtual 183, 3) := by decide +kernel
theorem dL_law_967 : decode cL_law 967 = .ok (.istore 7, 2) := by decide +kernel
theorem dL_law_969 : decode cL_law 969 = .ok (.aload_n 2, 1) := by decide +kernel
theorem dL_law_970 : decode cL_law 970 = .ok (.invokevirtual 151, 3) := by decide +kernel
theorem dL_law_973 : decode cL_law 973 = .ok (.iload 6, 2) := by decide +kernel
theorem dL_law_975 : decode cL_law 975 = .ok (.if_icmp .eq 5, 3) := by decide +kernel
theorem dL_law_978 : decode cL_law 978 = .ok (.iconst 0, 1) := by decide +kernel
theorem dL_law_979 : decode cL_law 979 = .ok (.ireturn, 1) := by decide +kernel
theorem dL_law_980 : decode cL_law 980 = .ok (.iload 6, 2) := by decide +kernel
theorem dL_law_982 : decode cL_law 982 = .ok (.ifCond .ne 15, 3) := by decide +kernel
theorem dL_law_985 : decode cL_law 985 = .ok (.aload_n 3, 1) := by decide +kernel
theorem dL_law_986 : decode cL_law 986 = .ok (.iconst 0, 1) := by decide +kernel
theorem dL_law_987 : decode cL_law 987 = .ok (.laload, 1) := by decide +kernel
theorem dL_law_988 : decode cL_law 988 = .ok (.iload 7, 2) := by decide +kernel
theorem dL_law_990 : decode cL_law 990 = .ok (.i2l, 1) := by decide +kernel
theorem dL_law_991 : decode cL_law 991 = .ok (.lcmp, 1) := by decide +kernel
theorem dL_law_992 : decode cL_law 992 = .ok (.ifCond .eq 5, 3) := by decide +kernel
theorem dL_law_995 : decode cL_law 995 = .ok (.iconst 0, 1) := by decide +kernel
theorem dL_law_996 : decode cL_law 996 = .ok (.ireturn, 1) := by decide +kernel
theorem dL_law_997 : decode cL_law 997 = .ok (.goto 1883, 3) := by decide +kernel
theorem dL_law_1000 : decode cL_law 1000 = .ok (.aload_n 1, 1) := by decide +kernel
theorem dL_law_1001 : decode cL_law 1001 = .ok (.aload_n 0, 1) := by decide +kernel
theorem dL_law_1002 : decode cL_law 1002 = .ok (.iload 5, 2) := by decide +kernel
theorem dL_law_1004 : decode cL_law 1004 = .ok (.iconst 1, 1) := by decide +kernel
theorem dL_law_1005 : decode cL_law 1005 = .ok (.iadd, 1) := by decide +kernel
theorem dL_law_1006 : decode cL_law 1006 = .ok (.iaload, 1) := by decide +kernel
theorem dL_law_1007 : decode cL_law 1007 = .ok (.aload_n 0, 1) := by decide +kernel
theorem dL_law_1008 : decode cL_law 1008 = .ok (.iload 5, 2) := by decide +kernel
theorem dL_law_1010 : decode cL_law 1010 = .ok (.iconst 2, 1) := by decide +kernel
theorem dL_law_1011 : decode cL_law 1011 = .ok (.iadd, 1) := by decide +kernel
theorem dL_law_1012 : decode cL_law 1012 = .ok (.iaload, 1) := by decide +kernel
theorem dL_law_1013 : decode cL_law 1013 = .ok (.aload_n 3, 1) := by decide +kernel
theorem dL_law_1014 : decode cL_law 1014 = .ok (.invokestatic 184, 3) := by decide +kernel
theorem dL_law_1017 : decode cL_law 1017 = .ok (.istore 6, 2) := by decide +kernel
theorem dL_law_1019 : decode cL_law 1019 = .ok (.aload_n 2, 1) := by decide +kernel
theorem dL_law_1020 : decode cL_law 1020 = .ok (.aload_n 0, 1) := by decide +kernel
theorem dL_law_1021 : decode cL_law 1021 = .ok (.iload 5, 2) := by decide +kernel
theorem dL_law_1023 : decode cL_law 1023 = .ok (.iconst 1, 1) := by decide +kernel
theorem dL_law_1024 : decode cL_law 1024 = .ok (.iadd, 1) := by decide +kernel
theorem dL_law_1025 : decode cL_law 1025 = .ok (.iaload, 1) := by decide +kernel
theorem dL_law_1026 : decode cL_law 1026 = .ok (.aload_n 0, 1) := by decide +kernel
theorem dL_law_1027 : decode cL_law 1027 = .ok (.iload 5, 2) := by decide +kernel
theorem dL_law_1029 : decode cL_law 1029 = .ok (.iconst 2, 1) := by decide +kernel
theorem dL_law_1030 : decode cL_law 1030 = .ok (.iadd, 1) := by decide +kernel
theorem dL_law_1031 : decode cL_law 1031 = .ok (.iaload, 1) := by decide +kernel
theorem dL_law_1032 : decode cL_law 1032 = .ok (.invokevirtual 186, 3) := by decide +kernel
theorem dL_law_1035 : decode cL_law 1035 = .ok (.istore 7, 2) := by decide +kernel
theorem dL_law_1037 : decode cL_law 1037 = .ok (.aload_n 2, 1) := by decide +kernel
theorem dL_law_1038 : decode cL_law 1038 = .ok (.invokevirtual 151, 3) := by decide +kernel
theorem dL_law_1041 : decode cL_law 1041 = .ok (.iload 6, 2) := by decide +kernel
theorem dL_law_1043 : decode cL_law 1043 = .ok (.if_icmp .eq 5, 3) := by decide +kernel
theorem dL_law_1046 : decode cL_law 1046 = .ok (.iconst 0, 1) := by decide +kernel
theorem dL_law_1047 : decode cL_law 1047 = .ok (.ireturn, 1) := by decide +kernel
theorem dL_law_1048 : decode cL_law 1048 = .ok (.iload 6, 2) := by decide +kernel
theorem dL_law_1050 : decode cL_law 1050 = .ok (.ifCond .ne 15, 3) := by decide +kernel
theorem dL_law_1053 : decode cL_law 1053 = .ok (.aload_n 3, 1) := by decide +kernel
theorem dL_law_1054 : decode cL_law 1054 = .ok (.iconst 0, 1) := by decide +kernel
theorem dL_law_1055 : decode cL_law 1055 = .ok (.laload, 1) := by decide +kernel
theorem dL_law_1056 : decode cL_law 1056 = .ok (.iload 7, 2) := by decide +kernel
theorem dL_law_1058 : decode cL_law 1058 = .ok (.i2l, 1) := by decide +kernel
theorem dL_law_1059 : decode cL_law 1059 = .ok (.lcmp, 1) := by decide +kernel
theorem dL_law_1060 : decode cL_law 1060 = .ok (.ifCond .eq 5, 3) := by decide +kernel
theorem dL_law_1063 : decode cL_law 1063 = .ok (.iconst 0, 1) := by decide +kernel
theorem dL_law_1064 : decode cL_law 1064 = .ok (.ireturn, 1) := by decide +kernel
theorem dL_law_1065 : decode cL_law 1065 = .ok (.goto 1815, 3) := by decide +kernel
theorem dL_law_1068 : decode cL_law 1068 = .ok (.aload_n 1, 1) := by decide +kernel
theorem dL_law_1069 : decode cL_law 1069 = .ok (.aload_n 0, 1) := by decide +kernel
theorem dL_law_1070 : decode cL_law 1070 = .ok (.iload 5, 2) := by decide +kernel
theorem dL_law_1072 : decode cL_law 1072 = .ok (.iconst 1, 1) := by decide +kernel
theorem dL_law_1073 : decode cL_law 1073 = .ok (.iadd, 1) := by decide +kernel
theorem dL_law_1074 : decode cL_law 1074 = .ok (.iaload, 1) := by decide +kernel
theorem dL_law_1075 : decode cL_law 1075 = .ok (.aload_n 0, 1) := by decide +kernel
theorem dL_law_1076 : decode cL_law 1076 = .ok (.iload 5, 2) := by decide +kernel
theorem dL_law_1078 : decode cL_law 1078 = .ok (.iconst 2, 1) := by decide +kernel
theorem dL_law_1079 : decode cL_law 1079 = .ok (.iadd, 1) := by decide +kernel
theorem dL_law_1080 : decode cL_law 1080 = .ok (.iaload, 1) := by decide +kernel
theorem dL_law_1081 : decode cL_law 1081 = .ok (.aload_n 3, 1) := by decide +kernel
theorem dL_law_1082 : decode cL_law 1082 = .ok (.invokestatic 187, 3) := by decide +kernel
theorem dL_law_1085 : decode cL_law 1085 = .ok (.istore 6, 2) := by decide +kernel
theorem dL_law_1087 : decode cL_law 1087 = .ok (.aload_n 2, 1) := by decide +kernel
theorem dL_law_1088 : decode cL_law 1088 = .ok (.aload_n 0, 1) := by decide +kernel
theorem dL_law_1089 : decode cL_law 1089 = .ok (.iload 5, 2) := by decide +kernel
theorem dL_law_1091 : decode cL_law 1091 = .ok (.iconst 1, 1) := by decide +kernel
theorem dL_law_1092 : decode cL_law 1092 = .ok (.iadd, 1) := by decide +kernel
theorem dL_law_1093 : decode cL_law 1093 = .ok (.iaload, 1) := by decide +kernel
theorem dL_law_1094 : decode cL_law 1094 = .ok (.aload_n 0, 1) := by decide +kernel
theorem dL_law_1095 : decode cL_law 1095 = .ok (.iload 5, 2) := by decide +kernel
theorem dL_law_1097 : decode cL_law 1097 = .ok (.iconst 2, 1) := by decide +kernel
theorem dL_law_1098 : decode cL_law 1098 = .ok (.iadd, 1) := by decide +kernel
theorem dL_law_1099 : decode cL_law 1099 = .ok (.iaload, 1) := by decide +kernel
theorem dL_law_1100 : decode cL_law 1100 = .ok (.invokevirtual 189, 3) := by decide +kernel
theorem dL_law_1103 : decode cL_law 1103 = .ok (.istore 7, 2) := by decide +kernel
theorem dL_law_1105 : decode cL_law 1105 = .ok (.aload_n 2, 1) := by decide +kernel
theorem dL_law_1106 : decode cL_law 1106 = .ok (.invokevirtual 151, 3) := by decide +kernel
theorem dL_law_1109 : decode cL_law 1109 = .ok (.iload 6, 2) := by decide +kernel
theorem dL_law_1111 : decode cL_law 1111 = .ok (.if_icmp .eq 5, 3) := by decide +kernel
theorem dL_law_1114 : decode cL_law 1114 = .ok (.iconst 0, 1) := by decide +kernel
theorem dL_law_1115 : decode cL_law 1115 = .ok (.ireturn, 1) := by decide +kernel
theorem dL_law_1116 : decode cL_law 1116 = .ok (.iload 6, 2) := by decide +kernel
theorem dL_law_1118 : decode cL_law 1118 = .ok (.ifCond .ne 15, 3) := by decide +kernel
theorem dL_law_1121 : decode cL_law 1121 = .ok (.aload_n 3, 1) := by decide +kernel
theorem dL_law_1122 : decode cL_law 1122 = .ok (.iconst 0, 1) := by decide +kernel
theorem dL_law_1123 : decode cL_law 1123 = .ok (.laload, 1) := by decide +kernel
theorem dL_law_1124 : decode cL_law 1124 = .ok (.iload 7, 2) := by decide +kernel
theorem dL_law_1126 : decode cL_law 1126 = .ok (.i2l, 1) := by decide +kernel
theorem dL_law_1127 : decode cL_law 1127 = .ok (.lcmp, 1) := by decide +kernel
theorem dL_law_1128 : decode cL_law 1128 = .ok (.ifCond .eq 5, 3) := by decide +kernel
theorem dL_law_1131 : decode cL_law 1131 = .ok (.iconst 0, 1) := by decide +kernel
theorem dL_law_1132 : decode cL_law 1132 = .ok (.ireturn, 1) := by decide +kernel
theorem dL_law_1133 : decode cL_law 1133 = .ok (.goto 1747, 3) := by decide +kernel
theorem dL_law_1136 : decode cL_law 1136 = .ok (.aload_n 1, 1) := by decide +kernel
theorem dL_law_1137 : decode cL_law 1137 = .ok (.aload_n 0, 1) := by decide +kernel
theorem dL_law_1138 : decode cL_law 1138 = .ok (.iload 5, 2) := by decide +kernel
theorem dL_law_1140 : decode cL_law 1140 = .ok (.iconst 1, 1) := by decide +kernel
theorem dL_law_1141 : decode cL_law 1141 = .ok (.iadd, 1) := by decide +kernel
theorem dL_law_1142 : decode cL_law 1142 = .ok (.iaload, 1) := by decide +kernel
theorem dL_law_1143 : decode cL_law 1143 = .ok (.aload_n 3, 1) := by decide +kernel
theorem dL_law_1144 : decode cL_law 1144 = .ok (.invokestatic 190, 3) := by decide +kernel
theorem dL_law_1147 : decode cL_law 1147 = .ok (.istore 6, 2) := by decide +kernel
theorem dL_law_1149 : decode cL_law 1149 = .ok (.aload_n 2, 1) := by decide +kernel
theorem dL_law_1150 : decode cL_law 1150 = .ok (.aload_n 0, 1) := by decide +kernel
theorem dL_law_1151 : decode cL_law 1151 = .ok (.iload 5, 2) := by decide +kernel
theorem dL_law_1153 : decode cL_law 1153 = .ok (.iconst 1, 1) := by decide +kernel
theorem dL_law_1154 : decode cL_law 1154 = .ok (.iadd, 1) := by decide +kernel
theorem dL_law_1155 : decode cL_law 1155 = .ok (.iaload, 1) := by decide +kernel
theorem dL_law_1156 : decode cL_law 1156 = .ok (.invokevirtual 192, 3) := by decide +kernel
theorem dL_law_1159 : decode cL_law 1159 = .ok (.istore 7, 2) := by decide +kernel
theorem dL_law_1161 : decode cL_law 1161 = .ok (.aload_n 2, 1) := by decide +kernel
theorem dL_law_1162 : decode cL_law 1162 = .ok (.invokevirtual 151, 3) := by decide +kernel
theorem dL_law_1165 : decode cL_law 1165 = .ok (.iload 6, 2) := by decide +kernel
theorem dL_law_1167 : decode cL_law 1167 = .ok (.if_icmp .eq 5, 3) := by decide +kernel
theorem dL_law_1170 : decode cL_law 1170 = .ok (.iconst 0, 1) := by decide +kernel
theorem dL_law_1171 : decode cL_law 1171 = .ok (.ireturn, 1) := by decide +kernel
theorem dL_law_1172 : decode cL_law 1172 = .ok (.iload 6, 2) := by decide +kernel
theorem dL_law_1174 : decode cL_law 1174 = .ok (.ifCond .ne 15, 3) := by decide +kernel
theorem dL_law_1177 : decode cL_law 1177 = .ok (.aload_n 3, 1) := by decide +kernel
theorem dL_law_1178 : decode cL_law 1178 = .ok (.iconst 0, 1) := by decide +kernel
theorem dL_law_1179 : decode cL_law 1179 = .ok (.laload, 1) := by decide +kernel
theorem dL_law_1180 : decode cL_law 1180 = .ok (.iload 7, 2) := by decide +kernel
theorem dL_law_1182 : decode cL_law 1182 = .ok (.i2l, 1) := by decide +kernel
theorem dL_law_1183 : decode cL_law 1183 = .ok (.lcmp, 1) := by decide +kernel
theorem dL_law_1184 : decode cL_law 1184 = .ok (.ifCond .eq 5, 3) := by decide +kernel
theorem dL_law_1187 : decode cL_law 1187 = .ok (.iconst 0, 1) := by decide +kernel
theorem dL_law_1188 : decode cL_law 1188 = .ok (.ireturn, 1) := by decide +kernel
theorem dL_law_1189 : decode cL_law 1189 = .ok (.goto 1691, 3) := by decide +kernel
theorem dL_law_1192 : decode cL_law 1192 = .ok (.aload_n 1, 1) := by decide +kernel
theorem dL_law_1193 : decode cL_law 1193 = .ok (.aload_n 0, 1) := by decide +kernel
theorem dL_law_1194 : decode cL_law 1194 = .ok (.iload 5, 2) := by decide +kernel
theorem dL_law_1196 : decode cL_law 1196 = .ok (.iconst 1, 1) := by decide +kernel
theorem dL_law_1197 : decode cL_law 1197 = .ok (.iadd, 1) := by decide +kernel
theorem dL_law_1198 : decode cL_law 1198 = .ok (.iaload, 1) := by decide +kernel
theorem dL_law_1199 : decode cL_law 1199 = .ok (.aload_n 3, 1) := by decide +kernel
theorem dL_law_1200 : decode cL_law 1200 = .ok (.invokestatic 193, 3) := by decide +kernel
theorem dL_law_1203 : decode cL_law 1203 = .ok (.istore 6, 2) := by decide +kernel
theorem dL_law_1205 : decode cL_law 1205 = .ok (.aload_n 2, 1) := by decide +kernel
theorem dL_law_1206 : decode cL_law 1206 = .ok (.aload_n 0, 1) := by decide +kernel
theorem dL_law_1207 : decode cL_law 1207 = .ok (.iload 5, 2) := by decide +kernel
theorem dL_law_1209 : decode cL_law 1209 = .ok (.iconst 1, 1) := by decide +kernel
theorem dL_law_1210 : decode cL_law 1210 = .ok (.iadd, 1) := by decide +kernel
theorem dL_law_1211 : decode cL_law 1211 = .ok (.iaload, 1) := by decide +kernel
theorem dL_law_1212 : decode cL_law 1212 = .ok (.invokevirtual 195, 3) := by decide +kernel
theorem dL_law_1215 : decode cL_law 1215 = .ok (.istore 7, 2) := by decide +kernel
theorem dL_law_1217 : decode cL_law 1217 = .ok (.aload_n 2, 1) := by decide +kernel
theorem dL_law_1218 : decode cL_law 1218 = .ok (.invokevirtual 151, 3) := by decide +kernel
theorem dL_law_1221 : decode cL_law 1221 = .ok (.iload 6, 2) := by decide +kernel
theorem dL_law_1223 : decode cL_law 1223 = .ok (.if_icmp .eq 5, 3) := by decide +kernel
theorem dL_law_1226 : decode cL_law 1226 = .ok (.iconst 0, 1) := by decide +kernel
theorem dL_law_1227 : decode cL_law 1227 = .ok (.ireturn, 1) := by decide +kernel
theorem dL_law_1228 : decode cL_law 1228 = .ok (.iload 6, 2) := by decide +kernel
theorem dL_law_1230 : decode cL_law 1230 = .ok (.ifCond .ne 22, 3) := by decide +kernel
theorem dL_law_1233 : decode cL_law 1233 = .ok (.aload_n 3, 1) := by decide +kernel
theorem dL_law_1234 : decode cL_law 1234 = .ok (.iconst 0, 1) := by decide +kernel
theorem dL_law_1235 : decode cL_law 1235 = .ok (.laload, 1) := by decide +kernel
theorem dL_law_1236 : decode cL_law 1236 = .ok (.iload 7, 2) := by decide +kernel
theorem dL_law_1238 : decode cL_law 1238 = .ok (.ifCond .eq 7, 3) := by decide +kernel
theorem dL_law_1241 : decode cL_law 1241 = .ok (.lconst 1, 1) := by decide +kernel
theorem dL_law_1242 : decode cL_law 1242 = .ok (.goto 4, 3) := by decide +kernel
theorem dL_law_1245 : decode cL_law 1245 = .ok (.lconst 0, 1) := by decide +kernel
theorem dL_law_1246 : decode cL_law 1246 = .ok (.lcmp, 1) := by decide +kernel
theorem dL_law_1247 : decode cL_law 1247 = .ok (.ifCond .eq 5, 3) := by decide +kernel
theorem dL_law_1250 : decode cL_law 1250 = .ok (.iconst 0, 1) := by decide +kernel
theorem dL_law_1251 : decode cL_law 1251 = .ok (.ireturn, 1) := by decide +kernel
theorem dL_law_1252 : decode cL_law 1252 = .ok (.goto 1628, 3) := by decide +kernel
theorem dL_law_1255 : decode cL_law 1255 = .ok (.aload_n 1, 1) := by decide +kernel
theorem dL_law_1256 : decode cL_law 1256 = .ok (.aload_n 3, 1) := by decide +kernel
theorem dL_law_1257 : decode cL_law 1257 = .ok (.invokestatic 196, 3) := by decide +kernel
theorem dL_law_1260 : decode cL_law 1260 = .ok (.istore 6, 2) := by decide +kernel
theorem dL_law_1262 : decode cL_law 1262 = .ok (.aload_n 2, 1) := by decide +kernel
theorem dL_law_1263 : decode cL_law 1263 = .ok (.invokevirtual 199, 3) := by decide +kernel
theorem dL_law_1266 : decode cL_law 1266 = .ok (.istore 7, 2) := by decide +kernel
theorem dL_law_1268 : decode cL_law 1268 = .ok (.aload_n 2, 1) := by decide +kernel
theorem dL_law_1269 : decode cL_law 1269 = .ok (.invokevirtual 151, 3) := by decide +kernel
theorem dL_law_1272 : decode cL_law 1272 = .ok (.iload 6, 2) := by decide +kernel
theorem dL_law_1274 : decode cL_law 1274 = .ok (.if_icmp .eq 5, 3) := by decide +kernel
theorem dL_law_1277 : decode cL_law 1277 = .ok (.iconst 0, 1) := by decide +kernel
theorem dL_law_1278 : decode cL_law 1278 = .ok (.ireturn, 1) := by decide +kernel
theorem dL_law_1279 : decode cL_law 1279 = .ok (.iload 6, 2) := by decide +kernel
theorem dL_law_1281 : decode cL_law 1281 = .ok (.ifCond .ne 15, 3) := by decide +kernel
theorem dL_law_1284 : decode cL_law 1284 = .ok (.aload_n 3, 1) := by decide +kernel
theorem dL_law_1285 : decode cL_law 1285 = .ok (.iconst 0, 1) := by decide +kernel
theorem dL_law_1286 : decode cL_law 1286 = .ok (.laload, 1) := by decide +kernel
theorem dL_law_1287 : decode cL_law 1287 = .ok (.iload 7, 2) := by decide +kernel
theorem dL_law_1289 : decode cL_law 1289 = .ok (.i2l, 1) := by decide +kernel
theorem dL_law_1290 : decode cL_law 1290 = .ok (.lcmp, 1) := by decide +kernel
theorem dL_law_1291 : decode cL_law 1291 = .ok (.ifCond .eq 5, 3) := by decide +kernel
theorem dL_law_1294 : decode cL_law 1294 = .ok (.iconst 0, 1) := by decide +kernel
theorem dL_law_1295 : decode cL_law 1295 = .ok (.ireturn, 1) := by decide +kernel
theorem dL_law_1296 : decode cL_law 1296 = .ok (.goto 1584, 3) := by decide +kernel
theorem dL_law_1299 : decode cL_law 1299 = .ok (.aload_n 1, 1) := by decide +kernel
theorem dL_law_1300 : decode cL_law 1300 = .ok (.aload_n 0, 1) := by decide +kernel
theorem dL_law_1301 : decode cL_law 1301 = .ok (.iload 5, 2) := by decide +kernel
theorem dL_law_1303 : decode cL_law 1303 = .ok (.iconst 1, 1) := by decide +kernel
theorem dL_law_1304 : decode cL_law 1304 = .ok (.iadd, 1) := by decide +kernel
theorem dL_law_1305 : decode cL_law 1305 = .ok (.iaload, 1) := by decide +kernel
theorem dL_law_1306 : decode cL_law 1306 = .ok (.aload_n 3, 1) := by decide +kernel
theorem dL_law_1307 : decode cL_law 1307 = .ok (.invokestatic 200, 3) := by decide +kernel
theorem dL_law_1310 : decode cL_law 1310 = .ok (.istore 6, 2) := by decide +kernel
theorem dL_law_1312 : decode cL_law 1312 = .ok (.aload_n 2, 1) := by decide +kernel
theorem dL_law_1313 : decode cL_law 1313 = .ok (.aload_n 0, 1) := by decide +kernel
theorem dL_law_1314 : decode cL_law 1314 = .ok (.iload 5, 2) := by decide +kernel
theorem dL_law_1316 : decode cL_law 1316 = .ok (.iconst 1, 1) := by decide +kernel
theorem dL_law_1317 : decode cL_law 1317 = .ok (.iadd, 1) := by decide +kernel
theorem dL_law_1318 : decode cL_law 1318 = .ok (.iaload, 1) := by decide +kernel
theorem dL_law_1319 : decode cL_law 1319 = .ok (.invokevirtual 202, 3) := by decide +kernel
theorem dL_law_1322 : decode cL_law 1322 = .ok (.istore 7, 2) := by decide +kernel
theorem dL_law_1324 : decode cL_law 1324 = .ok (.aload_n 2, 1) := by decide +kernel
theorem dL_law_1325 : decode cL_law 1325 = .ok (.invokevirtual 151, 3) := by decide +kernel
theorem dL_law_1328 : decode cL_law 1328 = .ok (.iload 6, 2) := by decide +kernel
theorem dL_law_1330 : decode cL_law 1330 = .ok (.if_icmp .eq 5, 3) := by decide +kernel
theorem dL_law_1333 : decode cL_law 1333 = .ok (.iconst 0, 1) := by decide +kernel
theorem dL_law_1334 : decode cL_law 1334 = .ok (.ireturn, 1) := by decide +kernel
theorem dL_law_1335 : decode cL_law 1335 = .ok (.iload 6, 2) := by decide +kernel
theorem dL_law_1337 : decode cL_law 1337 = .ok (.ifCond .ne 15, 3) := by decide +kernel
theorem dL_law_1340 : decode cL_law 1340 = .ok (.aload_n 3, 1) := by decide +kernel
theorem dL_law_1341 : decode cL_law 1341 = .ok (.iconst 0, 1) := by decide +kernel
theorem dL_law_1342 : decode cL_law 1342 = .ok (.laload, 1) := by decide +kernel
theorem dL_law_1343 : decode cL_law 1343 = .ok (.iload 7, 2) := by decide +kernel
theorem dL_law_1345 : decode cL_law 1345 = .ok (.i2l, 1) := by decide +kernel
theorem dL_law_1346 : decode cL_law 1346 = .ok (.lcmp, 1) := by decide +kernel
theorem dL_law_1347 : decode cL_law 1347 = .ok (.ifCond .eq 5, 3) := by decide +kernel
theorem dL_law_1350 : decode cL_law 1350 = .ok (.iconst 0, 1) := by decide +kernel
theorem dL_law_1351 : decode cL_law 1351 = .ok (.ireturn, 1) := by decide +kernel
theorem dL_law_1352 : decode cL_law 1352 = .ok (.goto 1528, 3) := by decide +kernel
theorem dL_law_1355 : decode cL_law 1355 = .ok (.aload_n 1, 1) := by decide +kernel
theorem dL_law_1356 : decode cL_law 1356 = .ok (.aload_n 0, 1) := by decide +kernel
theorem dL_law_1357 : decode cL_law 1357 = .ok (.iload 5, 2) := by decide +kernel
theorem dL_law_1359 : decode cL_law 1359 = .ok (.iconst 1, 1) := by decide +kernel
theorem dL_law_1360 : decode cL_law 1360 = .ok (.iadd, 1) := by decide +kernel
theorem dL_law_1361 : decode cL_law 1361 = .ok (.iaload, 1) := by decide +kernel
theorem dL_law_1362 : decode cL_law 1362 = .ok (.aload_n 0, 1) := by decide +kernel
theorem dL_law_1363 : decode cL_law 1363 = .ok (.iload 5, 2) := by decide +kernel
theorem dL_law_1365 : decode cL_law 1365 = .ok (.iconst 2, 1) := by decide +kernel
theorem dL_law_1366 : decode cL_law 1366 = .ok (.iadd, 1) := by decide +kernel
theorem dL_law_1367 : decode cL_law 1367 = .ok (.iaload, 1) := by decide +kernel
theorem dL_law_1368 : decode cL_law 1368 = .ok (.aload_n 0, 1) := by decide +kernel
theorem dL_law_1369 : decode cL_law 1369 = .ok (.iload 5, 2) := by decide +kernel
theorem dL_law_1371 : decode cL_law 1371 = .ok (.iconst 3, 1) := by decide +kernel
theorem dL_law_1372 : decode cL_law 1372 = .ok (.iadd, 1) := by decide +kernel
theorem dL_law_1373 : decode cL_law 1373 = .ok (.iaload, 1) := by decide +kernel
theorem dL_law_1374 : decode cL_law 1374 = .ok (.aload_n 3, 1) := by decide +kernel
theorem dL_law_1375 : decode cL_law 1375 = .ok (.invokestatic 203, 3) := by decide +kernel
theorem dL_law_1378 : decode cL_law 1378 = .ok (.istore 6, 2) := by decide +kernel
theorem dL_law_1380 : decode cL_law 1380 = .ok (.aload_n 2, 1) := by decide +kernel
theorem dL_law_1381 : decode cL_law 1381 = .ok (.aload_n 0, 1) := by decide +kernel
theorem dL_law_1382 : decode cL_law 1382 = .ok (.iload 5, 2) := by decide +kernel
theorem dL_law_1384 : decode cL_law 1384 = .ok (.iconst 1, 1) := by decide +kernel
theorem dL_law_1385 : decode cL_law 1385 = .ok (.iadd, 1) := by decide +kernel
theorem dL_law_1386 : decode cL_law 1386 = .ok (.iaload, 1) := by decide +kernel
theorem dL_law_1387 : decode cL_law 1387 = .ok (.aload_n 0, 1) := by decide +kernel
theorem dL_law_1388 : decode cL_law 1388 = .ok (.iload 5, 2) := by decide +kernel
theorem dL_law_1390 : decode cL_law 1390 = .ok (.iconst 2, 1) := by decide +kernel
theorem dL_law_1391 : decode cL_law 1391 = .ok (.iadd, 1) := by decide +kernel
theorem dL_law_1392 : decode cL_law 1392 = .ok (.iaload, 1) := by decide +kernel
theorem dL_law_1393 : decode cL_law 1393 = .ok (.aload_n 0, 1) := by decide +kernel
theorem dL_law_1394 : decode cL_law 1394 = .ok (.iload 5, 2) := by decide +kernel
theorem dL_law_1396 : decode cL_law 1396 = .ok (.iconst 3, 1) := by decide +kernel
theorem dL_law_1397 : decode cL_law 1397 = .ok (.iadd, 1) := by decide +kernel
theorem dL_law_1398 : decode cL_law 1398 = .ok (.iaload, 1) := by decide +kernel
theorem dL_law_1399 : decode cL_law 1399 = .ok (.invokevirtual 205, 3) := by decide +kernel
theorem dL_law_1402 : decode cL_law 1402 = .ok (.istore 7, 2) := by decide +kernel
theorem dL_law_1404 : decode cL_law 1404 = .ok (.aload_n 2, 1) := by decide +kernel
theorem dL_law_1405 : decode cL_law 1405 = .ok (.invokevirtual 151, 3) := by decide +kernel
theorem dL_law_1408 : decode cL_law 1408 = .ok (.iload 6, 2) := by decide +kernel
theorem dL_law_1410 : decode cL_law 1410 = .ok (.if_icmp .eq 5, 3) := by decide +kernel
theorem dL_law_1413 : decode cL_law 1413 = .ok (.iconst 0, 1) := by decide +kernel
theorem dL_law_1414 : decode cL_law 1414 = .ok (.ireturn, 1) := by decide +kernel
theorem dL_law_1415 : decode cL_law 1415 = .ok (.iload 6, 2) := by decide +kernel
theorem dL_law_1417 : decode cL_law 1417 = .ok (.ifCond .ne 15, 3) := by decide +kernel
theorem dL_law_1420 : decode cL_law 1420 = .ok (.aload_n 3, 1) := by decide +kernel
theorem dL_law_1421 : decode cL_law 1421 = .ok (.iconst 0, 1) := by decide +kernel
theorem dL_law_1422 : decode cL_law 1422 = .ok (.laload, 1) := by decide +kernel
theorem dL_law_1423 : decode cL_law 1423 = .ok (.iload 7, 2) := by decide +kernel
theorem dL_law_1425 : decode cL_law 1425 = .ok (.i2l, 1) := by decide +kernel
theorem dL_law_1426 : decode cL_law 1426 = .ok (.lcmp, 1) := by decide +kernel
theorem dL_law_1427 : decode cL_law 1427 = .ok (.ifCond .eq 5, 3) := by decide +kernel
theorem dL_law_1430 : decode cL_law 1430 = .ok (.iconst 0, 1) := by decide +kernel
theorem dL_law_1431 : decode cL_law 1431 = .ok (.ireturn, 1) := by decide +kernel
theorem dL_law_1432 : decode cL_law 1432 = .ok (.goto 1448, 3) := by decide +kernel
theorem dL_law_1435 : decode cL_law 1435 = .ok (.aload_n 1, 1) := by decide +kernel
theorem dL_law_1436 : decode cL_law 1436 = .ok (.aload_n 0, 1) := by decide +kernel
theorem dL_law_1437 : decode cL_law 1437 = .ok (.iload 5, 2) := by decide +kernel
theorem dL_law_1439 : decode cL_law 1439 = .ok (.iconst 1, 1) := by decide +kernel
theorem dL_law_1440 : decode cL_law 1440 = .ok (.iadd, 1) := by decide +kernel
theorem dL_law_1441 : decode cL_law 1441 = .ok (.iaload, 1) := by decide +kernel
theorem dL_law_1442 : decode cL_law 1442 = .ok (.aload_n 3, 1) := by decide +kernel
theorem dL_law_1443 : decode cL_law 1443 = .ok (.invokestatic 206, 3) := by decide +kernel
theorem dL_law_1446 : decode cL_law 1446 = .ok (.istore 6, 2) := by decide +kernel
theorem dL_law_1448 : decode cL_law 1448 = .ok (.aload_n 2, 1) := by decide +kernel
theorem dL_law_1449 : decode cL_law 1449 = .ok (.aload_n 0, 1) := by decide +kernel
theorem dL_law_1450 : decode cL_law 1450 = .ok (.iload 5, 2) := by decide +kernel
theorem dL_law_1452 : decode cL_law 1452 = .ok (.iconst 1, 1) := by decide +kernel
theorem dL_law_1453 : decode cL_law 1453 = .ok (.iadd, 1) := by decide +kernel
theorem dL_law_1454 : decode cL_law 1454 = .ok (.iaload, 1) := by decide +kernel
theorem dL_law_1455 : decode cL_law 1455 = .ok (.invokevirtual 208, 3) := by decide +kernel
theorem dL_law_1458 : decode cL_law 1458 = .ok (.istore 7, 2) := by decide +kernel
theorem dL_law_1460 : decode cL_law 1460 = .ok (.aload_n 2, 1) := by decide +kernel
theorem dL_law_1461 : decode cL_law 1461 = .ok (.invokevirtual 151, 3) := by decide +kernel
theorem dL_law_1464 : decode cL_law 1464 = .ok (.iload 6, 2) := by decide +kernel
theorem dL_law_1466 : decode cL_law 1466 = .ok (.if_icmp .eq 5, 3) := by decide +kernel
theorem dL_law_1469 : decode cL_law 1469 = .ok (.iconst 0, 1) := by decide +kernel
theorem dL_law_1470 : decode cL_law 1470 = .ok (.ireturn, 1) := by decide +kernel
theorem dL_law_1471 : decode cL_law 1471 = .ok (.iload 6, 2) := by decide +kernel
theorem dL_law_1473 : decode cL_law 1473 = .ok (.ifCond .ne 22, 3) := by decide +kernel
theorem dL_law_1476 : decode cL_law 1476 = .ok (.aload_n 3, 1) := by decide +kernel
theorem dL_law_1477 : decode cL_law 1477 = .ok (.iconst 0, 1) := by decide +kernel
theorem dL_law_1478 : decode cL_law 1478 = .ok (.laload, 1) := by decide +kernel
theorem dL_law_1479 : decode cL_law 1479 = .ok (.iload 7, 2) := by decide +kernel
theorem dL_law_1481 : decode cL_law 1481 = .ok (.ifCond .eq 7, 3) := by decide +kernel
theorem dL_law_1484 : decode cL_law 1484 = .ok (.lconst 1, 1) := by decide +kernel
theorem dL_law_1485 : decode cL_law 1485 = .ok (.goto 4, 3) := by decide +kernel
theorem dL_law_1488 : decode cL_law 1488 = .ok (.lconst 0, 1) := by decide +kernel
theorem dL_law_1489 : decode cL_law 1489 = .ok (.lcmp, 1) := by decide +kernel
theorem dL_law_1490 : decode cL_law 1490 = .ok (.ifCond .eq 5, 3) := by decide +kernel
theorem dL_law_1493 : decode cL_law 1493 = .ok (.iconst 0, 1) := by decide +kernel
theorem dL_law_1494 : decode cL_law 1494 = .ok (.ireturn, 1) := by decide +kernel
theorem dL_law_1495 : decode cL_law 1495 = .ok (.goto 1385, 3) := by decide +kernel
theorem dL_law_1498 : decode cL_law 1498 = .ok (.aload_n 1, 1) := by decide +kernel
theorem dL_law_1499 : decode cL_law 1499 = .ok (.aload_n 0, 1) := by decide +kernel
theorem dL_law_1500 : decode cL_law 1500 = .ok (.iload 5, 2) := by decide +kernel
theorem dL_law_1502 : decode cL_law 1502 = .ok (.iconst 1, 1) := by decide +kernel
theorem dL_law_1503 : decode cL_law 1503 = .ok (.iadd, 1) := by decide +kernel
theorem dL_law_1504 : decode cL_law 1504 = .ok (.iaload, 1) := by decide +kernel
theorem dL_law_1505 : decode cL_law 1505 = .ok (.aload_n 3, 1) := by decide +kernel
theorem dL_law_1506 : decode cL_law 1506 = .ok (.invokestatic 209, 3) := by decide +kernel
theorem dL_law_1509 : decode cL_law 1509 = .ok (.istore 6, 2) := by decide +kernel
theorem dL_law_1511 : decode cL_law 1511 = .ok (.aload_n 2, 1) := by decide +kernel
theorem dL_law_1512 : decode cL_law 1512 = .ok (.aload_n 0, 1) := by decide +kernel
theorem dL_law_1513 : decode cL_law 1513 = .ok (.iload 5, 2) := by decide +kernel
theorem dL_law_1515 : decode cL_law 1515 = .ok (.iconst 1, 1) := by decide +kernel
theorem dL_law_1516 : decode cL_law 1516 = .ok (.iadd, 1) := by decide +kernel
theorem dL_law_1517 : decode cL_law 1517 = .ok (.iaload, 1) := by decide +kernel
theorem dL_law_1518 : decode cL_law 1518 = .ok (.invokevirtual 211, 3) := by decide +kernel
theorem dL_law_1521 : decode cL_law 1521 = .ok (.istore 7, 2) := by decide +kernel
theorem dL_law_1523 : decode cL_law 1523 = .ok (.aload_n 2, 1) := by decide +kernel
theorem dL_law_1524 : decode cL_law 1524 = .ok (.invokevirtual 151, 3) := by decide +kernel
theorem dL_law_1527 : decode cL_law 1527 = .ok (.iload 6, 2) := by decide +kernel
theorem dL_law_1529 : decode cL_law 1529 = .ok (.if_icmp .eq 5, 3) := by decide +kernel
theorem dL_law_1532 : decode cL_law 1532 = .ok (.iconst 0, 1) := by decide +kernel
theorem dL_law_1533 : decode cL_law 1533 = .ok (.ireturn, 1) := by decide +kernel
theorem dL_law_1534 : decode cL_law 1534 = .ok (.iload 6, 2) := by decide +kernel
theorem dL_law_1536 : decode cL_law 1536 = .ok (.ifCond .ne 15, 3) := by decide +kernel
theorem dL_law_1539 : decode cL_law 1539 = .ok (.aload_n 3, 1) := by decide +kernel
theorem dL_law_1540 : decode cL_law 1540 = .ok (.iconst 0, 1) := by decide +kernel
theorem dL_law_1541 : decode cL_law 1541 = .ok (.laload, 1) := by decide +kernel
theorem dL_law_1542 : decode cL_law 1542 = .ok (.iload 7, 2) := by decide +kernel
theorem dL_law_1544 : decode cL_law 1544 = .ok (.i2l, 1) := by decide +kernel
theorem dL_law_1545 : decode cL_law 1545 = .ok (.lcmp, 1) := by decide +kernel
theorem dL_law_1546 : decode cL_law 1546 = .ok (.ifCond .eq 5, 3) := by decide +kernel
theorem dL_law_1549 : decode cL_law 1549 = .ok (.iconst 0, 1) := by decide +kernel
theorem dL_law_1550 : decode cL_law 1550 = .ok (.ireturn, 1) := by decide +kernel
end
section
theorem dL_law_1551 : decode cL_law 1551 = .ok (.goto 1329, 3) := by decide +kernel
theorem dL_law_1554 : decode cL_law 1554 = .ok (.aload_n 1, 1) := by decide +kernel
theorem dL_law_1555 : decode cL_law 1555 = .ok (.aload_n 0, 1) := by decide +kernel
theorem dL_law_1556 : decode cL_law 1556 = .ok (.iload 5, 2) := by decide +kernel
theorem dL_law_1558 : decode cL_law 1558 = .ok (.iconst 1, 1) := by decide +kernel
theorem dL_law_1559 : decode cL_law 1559 = .ok (.iadd, 1) := by decide +kernel
theorem dL_law_1560 : decode cL_law 1560 = .ok (.iaload, 1) := by decide +kernel
theorem dL_law_1561 : decode cL_law 1561 = .ok (.aload_n 3, 1) := by decide +kernel
theorem dL_law_1562 : decode cL_law 1562 = .ok (.invokestatic 212, 3) := by decide +kernel
theorem dL_law_1565 : decode cL_law 1565 = .ok (.istore 6, 2) := by decide +kernel
theorem dL_law_1567 : decode cL_law 1567 = .ok (.aload_n 2, 1) := by decide +kernel
theorem dL_law_1568 : decode cL_law 1568 = .ok (.aload_n 0, 1) := by decide +kernel
theorem dL_law_1569 : decode cL_law 1569 = .ok (.iload 5, 2) := by decide +kernel
theorem dL_law_1571 : decode cL_law 1571 = .ok (.iconst 1, 1) := by decide +kernel
theorem dL_law_1572 : decode cL_law 1572 = .ok (.iadd, 1) := by decide +kernel
theorem dL_law_1573 : decode cL_law 1573 = .ok (.iaload, 1) := by decide +kernel
theorem dL_law_1574 : decode cL_law 1574 = .ok (.invokevirtual 214, 3) := by decide +kernel
theorem dL_law_1577 : decode cL_law 1577 = .ok (.istore 7, 2) := by decide +kernel
theorem dL_law_1579 : decode cL_law 1579 = .ok (.aload_n 2, 1) := by decide +kernel
theorem dL_law_1580 : decode cL_law 1580 = .ok (.invokevirtual 151, 3) := by decide +kernel
theorem dL_law_1583 : decode cL_law 1583 = .ok (.iload 6, 2) := by decide +kernel
theorem dL_law_1585 : decode cL_law 1585 = .ok (.if_icmp .eq 5, 3) := by decide +kernel
theorem dL_law_1588 : decode cL_law 1588 = .ok (.iconst 0, 1) := by decide +kernel
theorem dL_law_1589 : decode cL_law 1589 = .ok (.ireturn, 1) := by decide +kernel
theorem dL_law_1590 : decode cL_law 1590 = .ok (.iload 6, 2) := by decide +kernel
theorem dL_law_1592 : decode cL_law 1592 = .ok (.ifCond .ne 15, 3) := by decide +kernel
theorem dL_law_1595 : decode cL_law 1595 = .ok (.aload_n 3, 1) := by decide +kernel
theorem dL_law_1596 : decode cL_law 1596 = .ok (.iconst 0, 1) := by decide +kernel
theorem dL_law_1597 : decode cL_law 1597 = .ok (.laload, 1) := by decide +kernel
theorem dL_law_1598 : decode cL_law 1598 = .ok (.iload 7, 2) := by decide +kernel
theorem dL_law_1600 : decode cL_law 1600 = .ok (.i2l, 1) := by decide +kernel
theorem dL_law_1601 : decode cL_law 1601 = .ok (.lcmp, 1) := by decide +kernel
theorem dL_law_1602 : decode cL_law 1602 = .ok (.ifCond .eq 5, 3) := by decide +kernel
theorem dL_law_1605 : decode cL_law 1605 = .ok (.iconst 0, 1) := by decide +kernel
theorem dL_law_1606 : decode cL_law 1606 = .ok (.ireturn, 1) := by decide +kernel
theorem dL_law_1607 : decode cL_law 1607 = .ok (.goto 1273, 3) := by decide +kernel
theorem dL_law_1610 : decode cL_law 1610 = .ok (.aload_n 1, 1) := by decide +kernel
theorem dL_law_1611 : decode cL_law 1611 = .ok (.aload_n 0, 1) := by decide +kernel
theorem dL_law_1612 : decode cL_law 1612 = .ok (.iload 5, 2) := by decide +kernel
theorem dL_law_1614 : decode cL_law 1614 = .ok (.iconst 1, 1) := by decide +kernel
theorem dL_law_1615 : decode cL_law 1615 = .ok (.iadd, 1) := by decide +kernel
theorem dL_law_1616 : decode cL_law 1616 = .ok (.iaload, 1) := by decide +kernel
theorem dL_law_1617 : decode cL_law 1617 = .ok (.aload_n 0, 1) := by decide +kernel
theorem dL_law_1618 : decode cL_law 1618 = .ok (.iload 5, 2) := by decide +kernel
theorem dL_law_1620 : decode cL_law 1620 = .ok (.iconst 2, 1) := by decide +kernel
theorem dL_law_1621 : decode cL_law 1621 = .ok (.iadd, 1) := by decide +kernel
theorem dL_law_1622 : decode cL_law 1622 = .ok (.iaload, 1) := by decide +kernel
theorem dL_law_1623 : decode cL_law 1623 = .ok (.aload_n 3, 1) := by decide +kernel
theorem dL_law_1624 : decode cL_law 1624 = .ok (.invokestatic 215, 3) := by decide +kernel
theorem dL_law_1627 : decode cL_law 1627 = .ok (.istore 6, 2) := by decide +kernel
theorem dL_law_1629 : decode cL_law 1629 = .ok (.aload_n 2, 1) := by decide +kernel
theorem dL_law_1630 : decode cL_law 1630 = .ok (.aload_n 0, 1) := by decide +kernel
theorem dL_law_1631 : decode cL_law 1631 = .ok (.iload 5, 2) := by decide +kernel
theorem dL_law_1633 : decode cL_law 1633 = .ok (.iconst 1, 1) := by decide +kernel
theorem dL_law_1634 : decode cL_law 1634 = .ok (.iadd, 1) := by decide +kernel
theorem dL_law_1635 : decode cL_law 1635 = .ok (.iaload, 1) := by decide +kernel
theorem dL_law_1636 : decode cL_law 1636 = .ok (.aload_n 0, 1) := by decide +kernel
theorem dL_law_1637 : decode cL_law 1637 = .ok (.iload 5, 2) := by decide +kernel
theorem dL_law_1639 : decode cL_law 1639 = .ok (.iconst 2, 1) := by decide +kernel
theorem dL_law_1640 : decode cL_law 1640 = .ok (.iadd, 1) := by decide +kernel
theorem dL_law_1641 : decode cL_law 1641 = .ok (.iaload, 1) := by decide +kernel
theorem dL_law_1642 : decode cL_law 1642 = .ok (.invokevirtual 217, 3) := by decide +kernel
theorem dL_law_1645 : decode cL_law 1645 = .ok (.istore 7, 2) := by decide +kernel
theorem dL_law_1647 : decode cL_law 1647 = .ok (.aload_n 2, 1) := by decide +kernel
theorem dL_law_1648 : decode cL_law 1648 = .ok (.invokevirtual 151, 3) := by decide +kernel
theorem dL_law_1651 : decode cL_law 1651 = .ok (.iload 6, 2) := by decide +kernel
theorem dL_law_1653 : decode cL_law 1653 = .ok (.if_icmp .eq 5, 3) := by decide +kernel
theorem dL_law_1656 : decode cL_law 1656 = .ok (.iconst 0, 1) := by decide +kernel
theorem dL_law_1657 : decode cL_law 1657 = .ok (.ireturn, 1) := by decide +kernel
theorem dL_law_1658 : decode cL_law 1658 = .ok (.iload 6, 2) := by decide +kernel
theorem dL_law_1660 : decode cL_law 1660 = .ok (.ifCond .ne 15, 3) := by decide +kernel
theorem dL_law_1663 : decode cL_law 1663 = .ok (.aload_n 3, 1) := by decide +kernel
theorem dL_law_1664 : decode cL_law 1664 = .ok (.iconst 0, 1) := by decide +kernel
theorem dL_law_1665 : decode cL_law 1665 = .ok (.laload, 1) := by decide +kernel
theorem dL_law_1666 : decode cL_law 1666 = .ok (.iload 7, 2) := by decide +kernel
theorem dL_law_1668 : decode cL_law 1668 = .ok (.i2l, 1) := by decide +kernel
theorem dL_law_1669 : decode cL_law 1669 = .ok (.lcmp, 1) := by decide +kernel
theorem dL_law_1670 : decode cL_law 1670 = .ok (.ifCond .eq 5, 3) := by decide +kernel
theorem dL_law_1673 : decode cL_law 1673 = .ok (.iconst 0, 1) := by decide +kernel
theorem dL_law_1674 : decode cL_law 1674 = .ok (.ireturn, 1) := by decide +kernel
theorem dL_law_1675 : decode cL_law 1675 = .ok (.goto 1205, 3) := by decide +kernel
theorem dL_law_1678 : decode cL_law 1678 = .ok (.aload_n 1, 1) := by decide +kernel
theorem dL_law_1679 : decode cL_law 1679 = .ok (.aload_n 0, 1) := by decide +kernel
theorem dL_law_1680 : decode cL_law 1680 = .ok (.iload 5, 2) := by decide +kernel
theorem dL_law_1682 : decode cL_law 1682 = .ok (.iconst 1, 1) := by decide +kernel
theorem dL_law_1683 : decode cL_law 1683 = .ok (.iadd, 1) := by decide +kernel
theorem dL_law_1684 : decode cL_law 1684 = .ok (.iaload, 1) := by decide +kernel
theorem dL_law_1685 : decode cL_law 1685 = .ok (.aload_n 3, 1) := by decide +kernel
theorem dL_law_1686 : decode cL_law 1686 = .ok (.invokestatic 218, 3) := by decide +kernel
theorem dL_law_1689 : decode cL_law 1689 = .ok (.istore 6, 2) := by decide +kernel
theorem dL_law_1691 : decode cL_law 1691 = .ok (.aload_n 2, 1) := by decide +kernel
theorem dL_law_1692 : decode cL_law 1692 = .ok (.aload_n 0, 1) := by decide +kernel
theorem dL_law_1693 : decode cL_law 1693 = .ok (.iload 5, 2) := by decide +kernel
theorem dL_law_1695 : decode cL_law 1695 = .ok (.iconst 1, 1) := by decide +kernel
theorem dL_law_1696 : decode cL_law 1696 = .ok (.iadd, 1) := by decide +kernel
theorem dL_law_1697 : decode cL_law 1697 = .ok (.iaload, 1) := by decide +kernel
theorem dL_law_1698 : decode cL_law 1698 = .ok (.invokevirtual 220, 3) := by decide +kernel
theorem dL_law_1701 : decode cL_law 1701 = .ok (.istore 7, 2) := by decide +kernel
theorem dL_law_1703 : decode cL_law 1703 = .ok (.aload_n 2, 1) := by decide +kernel
theorem dL_law_1704 : decode cL_law 1704 = .ok (.invokevirtual 151, 3) := by decide +kernel
theorem dL_law_1707 : decode cL_law 1707 = .ok (.iload 6, 2) := by decide +kernel
theorem dL_law_1709 : decode cL_law 1709 = .ok (.if_icmp .eq 5, 3) := by decide +kernel
theorem dL_law_1712 : decode cL_law 1712 = .ok (.iconst 0, 1) := by decide +kernel
theorem dL_law_1713 : decode cL_law 1713 = .ok (.ireturn, 1) := by decide +kernel
theorem dL_law_1714 : decode cL_law 1714 = .ok (.iload 6, 2) := by decide +kernel
theorem dL_law_1716 : decode cL_law 1716 = .ok (.ifCond .ne 15, 3) := by decide +kernel
theorem dL_law_1719 : decode cL_law 1719 = .ok (.aload_n 3, 1) := by decide +kernel
theorem dL_law_1720 : decode cL_law 1720 = .ok (.iconst 0, 1) := by decide +kernel
theorem dL_law_1721 : decode cL_law 1721 = .ok (.laload, 1) := by decide +kernel
theorem dL_law_1722 : decode cL_law 1722 = .ok (.iload 7, 2) := by decide +kernel
theorem dL_law_1724 : decode cL_law 1724 = .ok (.i2l, 1) := by decide +kernel
theorem dL_law_1725 : decode cL_law 1725 = .ok (.lcmp, 1) := by decide +kernel
theorem dL_law_1726 : decode cL_law 1726 = .ok (.ifCond .eq 5, 3) := by decide +kernel
theorem dL_law_1729 : decode cL_law 1729 = .ok (.iconst 0, 1) := by decide +kernel
theorem dL_law_1730 : decode cL_law 1730 = .ok (.ireturn, 1) := by decide +kernel
theorem dL_law_1731 : decode cL_law 1731 = .ok (.goto 1149, 3) := by decide +kernel
theorem dL_law_1734 : decode cL_law 1734 = .ok (.aload_n 1, 1) := by decide +kernel
theorem dL_law_1735 : decode cL_law 1735 = .ok (.aload_n 0, 1) := by decide +kernel
theorem dL_law_1736 : decode cL_law 1736 = .ok (.iload 5, 2) := by decide +kernel
theorem dL_law_1738 : decode cL_law 1738 = .ok (.iconst 1, 1) := by decide +kernel
theorem dL_law_1739 : decode cL_law 1739 = .ok (.iadd, 1) := by decide +kernel
theorem dL_law_1740 : decode cL_law 1740 = .ok (.iaload, 1) := by decide +kernel
theorem dL_law_1741 : decode cL_law 1741 = .ok (.aload_n 3, 1) := by decide +kernel
theorem dL_law_1742 : decode cL_law 1742 = .ok (.invokestatic 221, 3) := by decide +kernel
theorem dL_law_1745 : decode cL_law 1745 = .ok (.istore 6, 2) := by decide +kernel
theorem dL_law_1747 : decode cL_law 1747 = .ok (.aload_n 2, 1) := by decide +kernel
theorem dL_law_1748 : decode cL_law 1748 = .ok (.aload_n 0, 1) := by decide +kernel
theorem dL_law_1749 : decode cL_law 1749 = .ok (.iload 5, 2) := by decide +kernel
theorem dL_law_1751 : decode cL_law 1751 = .ok (.iconst 1, 1) := by decide +kernel
theorem dL_law_1752 : decode cL_law 1752 = .ok (.iadd, 1) := by decide +kernel
theorem dL_law_1753 : decode cL_law 1753 = .ok (.iaload, 1) := by decide +kernel
theorem dL_law_1754 : decode cL_law 1754 = .ok (.invokevirtual 223, 3) := by decide +kernel
theorem dL_law_1757 : decode cL_law 1757 = .ok (.istore 7, 2) := by decide +kernel
theorem dL_law_1759 : decode cL_law 1759 = .ok (.aload_n 2, 1) := by decide +kernel
theorem dL_law_1760 : decode cL_law 1760 = .ok (.invokevirtual 151, 3) := by decide +kernel
theorem dL_law_1763 : decode cL_law 1763 = .ok (.iload 6, 2) := by decide +kernel
theorem dL_law_1765 : decode cL_law 1765 = .ok (.if_icmp .eq 5, 3) := by decide +kernel
theorem dL_law_1768 : decode cL_law 1768 = .ok (.iconst 0, 1) := by decide +kernel
theorem dL_law_1769 : decode cL_law 1769 = .ok (.ireturn, 1) := by decide +kernel
theorem dL_law_1770 : decode cL_law 1770 = .ok (.iload 6, 2) := by decide +kernel
theorem dL_law_1772 : decode cL_law 1772 = .ok (.ifCond .ne 15, 3) := by decide +kernel
theorem dL_law_1775 : decode cL_law 1775 = .ok (.aload_n 3, 1) := by decide +kernel
theorem dL_law_1776 : decode cL_law 1776 = .ok (.iconst 0, 1) := by decide +kernel
theorem dL_law_1777 : decode cL_law 1777 = .ok (.laload, 1) := by decide +kernel
theorem dL_law_1778 : decode cL_law 1778 = .ok (.iload 7, 2) := by decide +kernel
theorem dL_law_1780 : decode cL_law 1780 = .ok (.i2l, 1) := by decide +kernel
theorem dL_law_1781 : decode cL_law 1781 = .ok (.lcmp, 1) := by decide +kernel
theorem dL_law_1782 : decode cL_law 1782 = .ok (.ifCond .eq 5, 3) := by decide +kernel
theorem dL_law_1785 : decode cL_law 1785 = .ok (.iconst 0, 1) := by decide +kernel
theorem dL_law_1786 : decode cL_law 1786 = .ok (.ireturn, 1) := by decide +kernel
theorem dL_law_1787 : decode cL_law 1787 = .ok (.goto 1093, 3) := by decide +kernel
theorem dL_law_1790 : decode cL_law 1790 = .ok (.aload_n 1, 1) := by decide +kernel
theorem dL_law_1791 : decode cL_law 1791 = .ok (.aload_n 0, 1) := by decide +kernel
theorem dL_law_1792 : decode cL_law 1792 = .ok (.iload 5, 2) := by decide +kernel
theorem dL_law_1794 : decode cL_law 1794 = .ok (.iconst 1, 1) := by decide +kernel
theorem dL_law_1795 : decode cL_law 1795 = .ok (.iadd, 1) := by decide +kernel
theorem dL_law_1796 : decode cL_law 1796 = .ok (.iaload, 1) := by decide +kernel
theorem dL_law_1797 : decode cL_law 1797 = .ok (.aload_n 0, 1) := by decide +kernel
theorem dL_law_1798 : decode cL_law 1798 = .ok (.iload 5, 2) := by decide +kernel
theorem dL_law_1800 : decode cL_law 1800 = .ok (.iconst 2, 1) := by decide +kernel
theorem dL_law_1801 : decode cL_law 1801 = .ok (.iadd, 1) := by decide +kernel
theorem dL_law_1802 : decode cL_law 1802 = .ok (.iaload, 1) := by decide +kernel
theorem dL_law_1803 : decode cL_law 1803 = .ok (.aload_n 3, 1) := by decide +kernel
theorem dL_law_1804 : decode cL_law 1804 = .ok (.invokestatic 224, 3) := by decide +kernel
theorem dL_law_1807 : decode cL_law 1807 = .ok (.istore 6, 2) := by decide +kernel
theorem dL_law_1809 : decode cL_law 1809 = .ok (.aload_n 2, 1) := by decide +kernel
theorem dL_law_1810 : decode cL_law 1810 = .ok (.aload_n 0, 1) := by decide +kernel
theorem dL_law_1811 : decode cL_law 1811 = .ok (.iload 5, 2) := by decide +kernel
theorem dL_law_1813 : decode cL_law 1813 = .ok (.iconst 1, 1) := by decide +kernel
theorem dL_law_1814 : decode cL_law 1814 = .ok (.iadd, 1) := by decide +kernel
theorem dL_law_1815 : decode cL_law 1815 = .ok (.iaload, 1) := by decide +kernel
theorem dL_law_1816 : decode cL_law 1816 = .ok (.aload_n 0, 1) := by decide +kernel
theorem dL_law_1817 : decode cL_law 1817 = .ok (.iload 5, 2) := by decide +kernel
theorem dL_law_1819 : decode cL_law 1819 = .ok (.iconst 2, 1) := by decide +kernel
theorem dL_law_1820 : decode cL_law 1820 = .ok (.iadd, 1) := by decide +kernel
theorem dL_law_1821 : decode cL_law 1821 = .ok (.iaload, 1) := by decide +kernel
theorem dL_law_1822 : decode cL_law 1822 = .ok (.invokevirtual 226, 3) := by decide +kernel
theorem dL_law_1825 : decode cL_law 1825 = .ok (.istore 7, 2) := by decide +kernel
theorem dL_law_1827 : decode cL_law 1827 = .ok (.aload_n 2, 1) := by decide +kernel
theorem dL_law_1828 : decode cL_law 1828 = .ok (.invokevirtual 151, 3) := by decide +kernel
theorem dL_law_1831 : decode cL_law 1831 = .ok (.iload 6, 2) := by decide +kernel
theorem dL_law_1833 : decode cL_law 1833 = .ok (.if_icmp .eq 5, 3) := by decide +kernel
theorem dL_law_1836 : decode cL_law 1836 = .ok (.iconst 0, 1) := by decide +kernel
theorem dL_law_1837 : decode cL_law 1837 = .ok (.ireturn, 1) := by decide +kernel
theorem dL_law_1838 : decode cL_law 1838 = .ok (.iload 6, 2) := by decide +kernel
theorem dL_law_1840 : decode cL_law 1840 = .ok (.ifCond .ne 22, 3) := by decide +kernel
theorem dL_law_1843 : decode cL_law 1843 = .ok (.aload_n 3, 1) := by decide +kernel
theorem dL_law_1844 : decode cL_law 1844 = .ok (.iconst 0, 1) := by decide +kernel
theorem dL_law_1845 : decode cL_law 1845 = .ok (.laload, 1) := by decide +kernel
theorem dL_law_1846 : decode cL_law 1846 = .ok (.iload 7, 2) := by decide +kernel
theorem dL_law_1848 : decode cL_law 1848 = .ok (.ifCond .eq 7, 3) := by decide +kernel
theorem dL_law_1851 : decode cL_law 1851 = .ok (.lconst 1, 1) := by decide +kernel
theorem dL_law_1852 : decode cL_law 1852 = .ok (.goto 4, 3) := by decide +kernel
theorem dL_law_1855 : decode cL_law 1855 = .ok (.lconst 0, 1) := by decide +kernel
theorem dL_law_1856 : decode cL_law 1856 = .ok (.lcmp, 1) := by decide +kernel
theorem dL_law_1857 : decode cL_law 1857 = .ok (.ifCond .eq 5, 3) := by decide +kernel
theorem dL_law_1860 : decode cL_law 1860 = .ok (.iconst 0, 1) := by decide +kernel
theorem dL_law_1861 : decode cL_law 1861 = .ok (.ireturn, 1) := by decide +kernel
theorem dL_law_1862 : decode cL_law 1862 = .ok (.goto 1018, 3) := by decide +kernel
theorem dL_law_1865 : decode cL_law 1865 = .ok (.aload_n 1, 1) := by decide +kernel
theorem dL_law_1866 : decode cL_law 1866 = .ok (.aload_n 0, 1) := by decide +kernel
theorem dL_law_1867 : decode cL_law 1867 = .ok (.iload 5, 2) := by decide +kernel
theorem dL_law_1869 : decode cL_law 1869 = .ok (.iconst 1, 1) := by decide +kernel
theorem dL_law_1870 : decode cL_law 1870 = .ok (.iadd, 1) := by decide +kernel
theorem dL_law_1871 : decode cL_law 1871 = .ok (.iaload, 1) := by decide +kernel
theorem dL_law_1872 : decode cL_law 1872 = .ok (.aload_n 0, 1) := by decide +kernel
theorem dL_law_1873 : decode cL_law 1873 = .ok (.iload 5, 2) := by decide +kernel
theorem dL_law_1875 : decode cL_law 1875 = .ok (.iconst 2, 1) := by decide +kernel
theorem dL_law_1876 : decode cL_law 1876 = .ok (.iadd, 1) := by decide +kernel
theorem dL_law_1877 : decode cL_law 1877 = .ok (.iaload, 1) := by decide +kernel
theorem dL_law_1878 : decode cL_law 1878 = .ok (.aload_n 3, 1) := by decide +kernel
theorem dL_law_1879 : decode cL_law 1879 = .ok (.invokestatic 227, 3) := by decide +kernel
theorem dL_law_1882 : decode cL_law 1882 = .ok (.istore 6, 2) := by decide +kernel
theorem dL_law_1884 : decode cL_law 1884 = .ok (.aload_n 2, 1) := by decide +kernel
theorem dL_law_1885 : decode cL_law 1885 = .ok (.aload_n 0, 1) := by decide +kernel
theorem dL_law_1886 : decode cL_law 1886 = .ok (.iload 5, 2) := by decide +kernel
theorem dL_law_1888 : decode cL_law 1888 = .ok (.iconst 1, 1) := by decide +kernel
theorem dL_law_1889 : decode cL_law 1889 = .ok (.iadd, 1) := by decide +kernel
theorem dL_law_1890 : decode cL_law 1890 = .ok (.iaload, 1) := by decide +kernel
theorem dL_law_1891 : decode cL_law 1891 = .ok (.aload_n 0, 1) := by decide +kernel
theorem dL_law_1892 : decode cL_law 1892 = .ok (.iload 5, 2) := by decide +kernel
theorem dL_law_1894 : decode cL_law 1894 = .ok (.iconst 2, 1) := by decide +kernel
theorem dL_law_1895 : decode cL_law 1895 = .ok (.iadd, 1) := by decide +kernel
theorem dL_law_1896 : decode cL_law 1896 = .ok (.iaload, 1) := by decide +kernel
theorem dL_law_1897 : decode cL_law 1897 = .ok (.invokevirtual 229, 3) := by decide +kernel
theorem dL_law_1900 : decode cL_law 1900 = .ok (.istore 7, 2) := by decide +kernel
theorem dL_law_1902 : decode cL_law 1902 = .ok (.aload_n 2, 1) := by decide +kernel
theorem dL_law_1903 : decode cL_law 1903 = .ok (.invokevirtual 151, 3) := by decide +kernel
theorem dL_law_1906 : decode cL_law 1906 = .ok (.iload 6, 2) := by decide +kernel
theorem dL_law_1908 : decode cL_law 1908 = .ok (.if_icmp .eq 5, 3) := by decide +kernel
theorem dL_law_1911 : decode cL_law 1911 = .ok (.iconst 0, 1) := by decide +kernel
theorem dL_law_1912 : decode cL_law 1912 = .ok (.ireturn, 1) := by decide +kernel
theorem dL_law_1913 : decode cL_law 1913 = .ok (.iload 6, 2) := by decide +kernel
theorem dL_law_1915 : decode cL_law 1915 = .ok (.ifCond .ne 22, 3) := by decide +kernel
theorem dL_law_1918 : decode cL_law 1918 = .ok (.aload_n 3, 1) := by decide +kernel
theorem dL_law_1919 : decode cL_law 1919 = .ok (.iconst 0, 1) := by decide +kernel
theorem dL_law_1920 : decode cL_law 1920 = .ok (.laload, 1) := by decide +kernel
theorem dL_law_1921 : decode cL_law 1921 = .ok (.iload 7, 2) := by decide +kernel
theorem dL_law_1923 : decode cL_law 1923 = .ok (.ifCond .eq 7, 3) := by decide +kernel
theorem dL_law_1926 : decode cL_law 1926 = .ok (.lconst 1, 1) := by decide +kernel
theorem dL_law_1927 : decode cL_law 1927 = .ok (.goto 4, 3) := by decide +kernel
theorem dL_law_1930 : decode cL_law 1930 = .ok (.lconst 0, 1) := by decide +kernel
theorem dL_law_1931 : decode cL_law 1931 = .ok (.lcmp, 1) := by decide +kernel
theorem dL_law_1932 : decode cL_law 1932 = .ok (.ifCond .eq 5, 3) := by decide +kernel
theorem dL_law_1935 : decode cL_law 1935 = .ok (.iconst 0, 1) := by decide +kernel
theorem dL_law_1936 : decode cL_law 1936 = .ok (.ireturn, 1) := by decide +kernel
theorem dL_law_1937 : decode cL_law 1937 = .ok (.goto 943, 3) := by decide +kernel
theorem dL_law_1940 : decode cL_law 1940 = .ok (.aload_n 1, 1) := by decide +kernel
theorem dL_law_1941 : decode cL_law 1941 = .ok (.aload_n 0, 1) := by decide +kernel
theorem dL_law_1942 : decode cL_law 1942 = .ok (.iload 5, 2) := by decide +kernel
theorem dL_law_1944 : decode cL_law 1944 = .ok (.iconst 1, 1) := by decide +kernel
theorem dL_law_1945 : decode cL_law 1945 = .ok (.iadd, 1) := by decide +kernel
theorem dL_law_1946 : decode cL_law 1946 = .ok (.iaload, 1) := by decide +kernel
theorem dL_law_1947 : decode cL_law 1947 = .ok (.aload_n 0, 1) := by decide +kernel
theorem dL_law_1948 : decode cL_law 1948 = .ok (.iload 5, 2) := by decide +kernel
theorem dL_law_1950 : decode cL_law 1950 = .ok (.iconst 2, 1) := by decide +kernel
theorem dL_law_1951 : decode cL_law 1951 = .ok (.iadd, 1) := by decide +kernel
theorem dL_law_1952 : decode cL_law 1952 = .ok (.iaload, 1) := by decide +kernel
theorem dL_law_1953 : decode cL_law 1953 = .ok (.aload_n 0, 1) := by decide +kernel
theorem dL_law_1954 : decode cL_law 1954 = .ok (.iload 5, 2) := by decide +kernel
theorem dL_law_1956 : decode cL_law 1956 = .ok (.iconst 3, 1) := by decide +kernel
theorem dL_law_1957 : decode cL_law 1957 = .ok (.iadd, 1) := by decide +kernel
theorem dL_law_1958 : decode cL_law 1958 = .ok (.iaload, 1) := by decide +kernel
theorem dL_law_1959 : decode cL_law 1959 = .ok (.aload_n 3, 1) := by decide +kernel
theorem dL_law_1960 : decode cL_law 1960 = .ok (.invokestatic 230, 3) := by decide +kernel
theorem dL_law_1963 : decode cL_law 1963 = .ok (.istore 6, 2) := by decide +kernel
theorem dL_law_1965 : decode cL_law 1965 = .ok (.aload_n 2, 1) := by decide +kernel
theorem dL_law_1966 : decode cL_law 1966 = .ok (.aload_n 0, 1) := by decide +kernel
theorem dL_law_1967 : decode cL_law 1967 = .ok (.iload 5, 2) := by decide +kernel
theorem dL_law_1969 : decode cL_law 1969 = .ok (.iconst 1, 1) := by decide +kernel
theorem dL_law_1970 : decode cL_law 1970 = .ok (.iadd, 1) := by decide +kernel
theorem dL_law_1971 : decode cL_law 1971 = .ok (.iaload, 1) := by decide +kernel
theorem dL_law_1972 : decode cL_law 1972 = .ok (.aload_n 0, 1) := by decide +kernel
theorem dL_law_1973 : decode cL_law 1973 = .ok (.iload 5, 2) := by decide +kernel
theorem dL_law_1975 : decode cL_law 1975 = .ok (.iconst 2, 1) := by decide +kernel
theorem dL_law_1976 : decode cL_law 1976 = .ok (.iadd, 1) := by decide +kernel
theorem dL_law_1977 : decode cL_law 1977 = .ok (.iaload, 1) := by decide +kernel
theorem dL_law_1978 : decode cL_law 1978 = .ok (.aload_n 0, 1) := by decide +kernel
theorem dL_law_1979 : decode cL_law 1979 = .ok (.iload 5, 2) := by decide +kernel
theorem dL_law_1981 : decode cL_law 1981 = .ok (.iconst 3, 1) := by decide +kernel
theorem dL_law_1982 : decode cL_law 1982 = .ok (.iadd, 1) := by decide +kernel
theorem dL_law_1983 : decode cL_law 1983 = .ok (.iaload, 1) := by decide +kernel
theorem dL_law_1984 : decode cL_law 1984 = .ok (.invokevirtual 232, 3) := by decide +kernel
theorem dL_law_1987 : decode cL_law 1987 = .ok (.istore 7, 2) := by decide +kernel
theorem dL_law_1989 : decode cL_law 1989 = .ok (.aload_n 2, 1) := by decide +kernel
theorem dL_law_1990 : decode cL_law 1990 = .ok (.invokevirtual 151, 3) := by decide +kernel
theorem dL_law_1993 : decode cL_law 1993 = .ok (.iload 6, 2) := by decide +kernel
theorem dL_law_1995 : decode cL_law 1995 = .ok (.if_icmp .eq 5, 3) := by decide +kernel
theorem dL_law_1998 : decode cL_law 1998 = .ok (.iconst 0, 1) := by decide +kernel
theorem dL_law_1999 : decode cL_law 1999 = .ok (.ireturn, 1) := by decide +kernel
theorem dL_law_2000 : decode cL_law 2000 = .ok (.iload 6, 2) := by decide +kernel
theorem dL_law_2002 : decode cL_law 2002 = .ok (.ifCond .ne 15, 3) := by decide +kernel
theorem dL_law_2005 : decode cL_law 2005 = .ok (.aload_n 3, 1) := by decide +kernel
theorem dL_law_2006 : decode cL_law 2006 = .ok (.iconst 0, 1) := by decide +kernel
theorem dL_law_2007 : decode cL_law 2007 = .ok (.laload, 1) := by decide +kernel
theorem dL_law_2008 : decode cL_law 2008 = .ok (.iload 7, 2) := by decide +kernel
theorem dL_law_2010 : decode cL_law 2010 = .ok (.i2l, 1) := by decide +kernel
theorem dL_law_2011 : decode cL_law 2011 = .ok (.lcmp, 1) := by decide +kernel
theorem dL_law_2012 : decode cL_law 2012 = .ok (.ifCond .eq 5, 3) := by decide +kernel
theorem dL_law_2015 : decode cL_law 2015 = .ok (.iconst 0, 1) := by decide +kernel
theorem dL_law_2016 : decode cL_law 2016 = .ok (.ireturn, 1) := by decide +kernel
theorem dL_law_2017 : decode cL_law 2017 = .ok (.goto 863, 3) := by decide +kernel
theorem dL_law_2020 : decode cL_law 2020 = .ok (.aload_n 1, 1) := by decide +kernel
theorem dL_law_2021 : decode cL_law 2021 = .ok (.aload_n 0, 1) := by decide +kernel
theorem dL_law_2022 : decode cL_law 2022 = .ok (.iload 5, 2) := by decide +kernel
theorem dL_law_2024 : decode cL_law 2024 = .ok (.iconst 1, 1) := by decide +kernel
theorem dL_law_2025 : decode cL_law 2025 = .ok (.iadd, 1) := by decide +kernel
theorem dL_law_2026 : decode cL_law 2026 = .ok (.iaload, 1) := by decide +kernel
theorem dL_law_2027 : decode cL_law 2027 = .ok (.aload_n 0, 1) := by decide +kernel
theorem dL_law_2028 : decode cL_law 2028 = .ok (.iload 5, 2) := by decide +kernel
theorem dL_law_2030 : decode cL_law 2030 = .ok (.iconst 2, 1) := by decide +kernel
theorem dL_law_2031 : decode cL_law 2031 = .ok (.iadd, 1) := by decide +kernel
theorem dL_law_2032 : decode cL_law 2032 = .ok (.iaload, 1) := by decide +kernel
theorem dL_law_2033 : decode cL_law 2033 = .ok (.aload_n 3, 1) := by decide +kernel
theorem dL_law_2034 : decode cL_law 2034 = .ok (.invokestatic 233, 3) := by decide +kernel
theorem dL_law_2037 : decode cL_law 2037 = .ok (.istore 6, 2) := by decide +kernel
theorem dL_law_2039 : decode cL_law 2039 = .ok (.aload_n 2, 1) := by decide +kernel
theorem dL_law_2040 : decode cL_law 2040 = .ok (.aload_n 0, 1) := by decide +kernel
theorem dL_law_2041 : decode cL_law 2041 = .ok (.iload 5, 2) := by decide +kernel
theorem dL_law_2043 : decode cL_law 2043 = .ok (.iconst 1, 1) := by decide +kernel
theorem dL_law_2044 : decode cL_law 2044 = .ok (.iadd, 1) := by decide +kernel
theorem dL_law_2045 : decode cL_law 2045 = .ok (.iaload, 1) := by decide +kernel
theorem dL_law_2046 : decode cL_law 2046 = .ok (.aload_n 0, 1) := by decide +kernel
theorem dL_law_2047 : decode cL_law 2047 = .ok (.iload 5, 2) := by decide +kernel
theorem dL_law_2049 : decode cL_law 2049 = .ok (.iconst 2, 1) := by decide +kernel
theorem dL_law_2050 : decode cL_law 2050 = .ok (.iadd, 1) := by decide +kernel
theorem dL_law_2051 : decode cL_law 2051 = .ok (.iaload, 1) := by decide +kernel
theorem dL_law_2052 : decode cL_law 2052 = .ok (.invokevirtual 235, 3) := by decide +kernel
theorem dL_law_2055 : decode cL_law 2055 = .ok (.istore 7, 2) := by decide +kernel
theorem dL_law_2057 : decode cL_law 2057 = .ok (.aload_n 2, 1) := by decide +kernel
theorem dL_law_2058 : decode cL_law 2058 = .ok (.invokevirtual 151, 3) := by decide +kernel
theorem dL_law_2061 : decode cL_law 2061 = .ok (.iload 6, 2) := by decide +kernel
theorem dL_law_2063 : decode cL_law 2063 = .ok (.if_icmp .eq 5, 3) := by decide +kernel
theorem dL_law_2066 : decode cL_law 2066 = .ok (.iconst 0, 1) := by decide +kernel
theorem dL_law_2067 : decode cL_law 2067 = .ok (.ireturn, 1) := by decide +kernel
theorem dL_law_2068 : decode cL_law 2068 = .ok (.iload 6, 2) := by decide +kernel
theorem dL_law_2070 : decode cL_law 2070 = .ok (.ifCond .ne 15, 3) := by decide +kernel
theorem dL_law_2073 : decode cL_law 2073 = .ok (.aload_n 3, 1) := by decide +kernel
theorem dL_law_2074 : decode cL_law 2074 = .ok (.iconst 0, 1) := by decide +kernel
theorem dL_law_2075 : decode cL_law 2075 = .ok (.laload, 1) := by decide +kernel
theorem dL_law_2076 : decode cL_law 2076 = .ok (.iload 7, 2) := by decide +kernel
theorem dL_law_2078 : decode cL_law 2078 = .ok (.i2l, 1) := by decide +kernel
theorem dL_law_2079 : decode cL_law 2079 = .ok (.lcmp, 1) := by decide +kernel
theorem dL_law_2080 : decode cL_law 2080 = .ok (.ifCond .eq 5, 3) := by decide +kernel
theorem dL_law_2083 : decode cL_law 2083 = .ok (.iconst 0, 1) := by decide +kernel
theorem dL_law_2084 : decode cL_law 2084 = .ok (.ireturn, 1) := by decide +kernel
theorem dL_law_2085 : decode cL_law 2085 = .ok (.goto 795, 3) := by decide +kernel
theorem dL_law_2088 : decode cL_law 2088 = .ok (.aload_n 1, 1) := by decide +kernel
theorem dL_law_2089 : decode cL_law 2089 = .ok (.aload_n 0, 1) := by decide +kernel
theorem dL_law_2090 : decode cL_law 2090 = .ok (.iload 5, 2) := by decide +kernel
theorem dL_law_2092 : decode cL_law 2092 = .ok (.iconst 1, 1) := by decide +kernel
theorem dL_law_2093 : decode cL_law 2093 = .ok (.iadd, 1) := by decide +kernel
theorem dL_law_2094 : decode cL_law 2094 = .ok (.iaload, 1) := by decide +kernel
theorem dL_law_2095 : decode cL_law 2095 = .ok (.aload_n 0, 1) := by decide +kernel
theorem dL_law_2096 : decode cL_law 2096 = .ok (.iload 5, 2) := by decide +kernel
theorem dL_law_2098 : decode cL_law 2098 = .ok (.iconst 2, 1) := by decide +kernel
theorem dL_law_2099 : decode cL_law 2099 = .ok (.iadd, 1) := by decide +kernel
theorem dL_law_2100 : decode cL_law 2100 = .ok (.iaload, 1) := by decide +kernel
theorem dL_law_2101 : decode cL_law 2101 = .ok (.aload_n 3, 1) := by decide +kernel
theorem dL_law_2102 : decode cL_law 2102 = .ok (.invokestatic 236, 3) := by decide +kernel
theorem dL_law_2105 : decode cL_law 2105 = .ok (.istore 6, 2) := by decide +kernel
theorem dL_law_2107 : decode cL_law 2107 = .ok (.aload_n 2, 1) := by decide +kernel
theorem dL_law_2108 : decode cL_law 2108 = .ok (.aload_n 0, 1) := by decide +kernel
theorem dL_law_2109 : decode cL_law 2109 = .ok (.iload 5, 2) := by decide +kernel
theorem dL_law_2111 : decode cL_law 2111 = .ok (.iconst 1, 1) := by decide +kernel
theorem dL_law_2112 : decode cL_law 2112 = .ok (.iadd, 1) := by decide +kernel
theorem dL_law_2113 : decode cL_law 2113 = .ok (.iaload, 1) := by decide +kernel
theorem dL_law_2114 : decode cL_law 2114 = .ok (.aload_n 0, 1) := by decide +kernel
theorem dL_law_2115 : decode cL_law 2115 = .ok (.iload 5, 2) := by decide +kernel
theorem dL_law_2117 : decode cL_law 2117 = .ok (.iconst 2, 1) := by decide +kernel
theorem dL_law_2118 : decode cL_law 2118 = .ok (.iadd, 1) := by decide +kernel
theorem dL_law_2119 : decode cL_law 2119 = .ok (.iaload, 1) := by decide +kernel
theorem dL_law_2120 : decode cL_law 2120 = .ok (.invokevirtual 238, 3) := by decide +kernel
theorem dL_law_2123 : decode cL_law 2123 = .ok (.istore 7, 2) := by decide +kernel
theorem dL_law_2125 : decode cL_law 2125 = .ok (.aload_n 2, 1) := by decide +kernel
theorem dL_law_2126 : decode cL_law 2126 = .ok (.invokevirtual 151, 3) := by decide +kernel
theorem dL_law_2129 : decode cL_law 2129 = .ok (.iload 6, 2) := by decide +kernel
theorem dL_law_2131 : decode cL_law 2131 = .ok (.if_icmp .eq 5, 3) := by decide +kernel
theorem dL_law_2134 : decode cL_law 2134 = .ok (.iconst 0, 1) := by decide +kernel
theorem dL_law_2135 : decode cL_law 2135 = .ok (.ireturn, 1) := by decide +kernel
theorem dL_law_2136 : decode cL_law 2136 = .ok (.iload 6, 2) := by decide +kernel
theorem dL_law_2138 : decode cL_law 2138 = .ok (.ifCond .ne 15, 3) := by decide +kernel
theorem dL_law_2141 : decode cL_law 2141 = .ok (.aload_n 3, 1) := by decide +kernel
theorem dL_law_2142 : decode cL_law 2142 = .ok (.iconst 0, 1) := by decide +kernel
theorem dL_law_2143 : decode cL_law 2143 = .ok (.laload, 1) := by decide +kernel
theorem dL_law_2144 : decode cL_law 2144 = .ok (.iload 7, 2) := by decide +kernel
theorem dL_law_2146 : decode cL_law 2146 = .ok (.i2l, 1) := by decide +kernel
theorem dL_law_2147 : decode cL_law 2147 = .ok (.lcmp, 1) := by decide +kernel
theorem dL_law_2148 : decode cL_law 2148 = .ok (.ifCond .eq 5, 3) := by decide +kernel
theorem dL_law_2151 : decode cL_law 2151 = .ok (.iconst 0, 1) := by decide +kernel
theorem dL_law_2152 : decode cL_law 2152 = .ok (.ireturn, 1) := by decide +kernel
theorem dL_law_2153 : decode cL_law 2153 = .ok (.goto 727, 3) := by decide +kernel
theorem dL_law_2156 : decode cL_law 2156 = .ok (.aload_n 1, 1) := by decide +kernel
theorem dL_law_2157 : decode cL_law 2157 = .ok (.aload_n 0, 1) := by decide +kernel
theorem dL_law_2158 : decode cL_law 2158 = .ok (.iload 5, 2) := by decide +kernel
theorem dL_law_2160 : decode cL_law 2160 = .ok (.iconst 1, 1) := by decide +kernel
theorem dL_law_2161 : decode cL_law 2161 = .ok (.iadd, 1) := by decide +kernel
theorem dL_law_2162 : decode cL_law 2162 = .ok (.iaload, 1) := by decide +kernel
theorem dL_law_2163 : decode cL_law 2163 = .ok (.aload_n 0, 1) := by decide +kernel
theorem dL_law_2164 : decode cL_law 2164 = .ok (.iload 5, 2) := by decide +kernel
theorem dL_law_2166 : decode cL_law 2166 = .ok (.iconst 2, 1) := by decide +kernel
theorem dL_law_2167 : decode cL_law 2167 = .ok (.iadd, 1) := by decide +kernel
theorem dL_law_2168 : decode cL_law 2168 = .ok (.iaload, 1) := by decide +kernel
theorem dL_law_2169 : decode cL_law 2169 = .ok (.aload_n 3, 1) := by decide +kernel
theorem dL_law_2170 : decode cL_law 2170 = .ok (.invokestatic 239, 3) := by decide +kernel
theorem dL_law_2173 : decode cL_law 2173 = .ok (.istore 6, 2) := by decide +kernel
theorem dL_law_2175 : decode cL_law 2175 = .ok (.aload_n 2, 1) := by decide +kernel
theorem dL_law_2176 : decode cL_law 2176 = .ok (.aload_n 0, 1) := by decide +kernel
theorem dL_law_2177 : decode cL_law 2177 = .ok (.iload 5, 2) := by decide +kernel
theorem dL_law_2179 : decode cL_law 2179 = .ok (.iconst 1, 1) := by decide +kernel
theorem dL_law_2180 : decode cL_law 2180 = .ok (.iadd, 1) := by decide +kernel
theorem dL_law_2181 : decode cL_law 2181 = .ok (.iaload, 1) := by decide +kernel
theorem dL_law_2182 : decode cL_law 2182 = .ok (.aload_n 0, 1) := by decide +kernel
theorem dL_law_2183 : decode cL_law 2183 = .ok (.iload 5, 2) := by decide +kernel
theorem dL_law_2185 : decode cL_law 2185 = .ok (.iconst 2, 1) := by decide +kernel
theorem dL_law_2186 : decode cL_law 2186 = .ok (.iadd, 1) := by decide +kernel
theorem dL_law_2187 : decode cL_law 2187 = .ok (.iaload, 1) := by decide +kernel
theorem dL_law_2188 : decode cL_law 2188 = .ok (.invokevirtual 241, 3) := by decide +kernel
theorem dL_law_2191 : decode cL_law 2191 = .ok (.istore 7, 2) := by decide +kernel
theorem dL_law_2193 : decode cL_law 2193 = .ok (.aload_n 2, 1) := by decide +kernel
theorem dL_law_2194 : decode cL_law 2194 = .ok (.invokevirtual 151, 3) := by decide +kernel
theorem dL_law_2197 : decode cL_law 2197 = .ok (.iload 6, 2) := by decide +kernel
theorem dL_law_2199 : decode cL_law 2199 = .ok (.if_icmp .eq 5, 3) := by decide +kernel
theorem dL_law_2202 : decode cL_law 2202 = .ok (.iconst 0, 1) := by decide +kernel
theorem dL_law_2203 : decode cL_law 2203 = .ok (.ireturn, 1) := by decide +kernel
theorem dL_law_2204 : decode cL_law 2204 = .ok (.iload 6, 2) := by decide +kernel
theorem dL_law_2206 : decode cL_law 2206 = .ok (.ifCond .ne 15, 3) := by decide +kernel
theorem dL_law_2209 : decode cL_law 2209 = .ok (.aload_n 3, 1) := by decide +kernel
theorem dL_law_2210 : decode cL_law 2210 = .ok (.iconst 0, 1) := by decide +kernel
theorem dL_law_2211 : decode cL_law 2211 = .ok (.laload, 1) := by decide +kernel
theorem dL_law_2212 : decode cL_law 2212 = .ok (.iload 7, 2) := by decide +kernel
theorem dL_law_2214 : decode cL_law 2214 = .ok (.i2l, 1) := by decide +kernel
theorem dL_law_2215 : decode cL_law 2215 = .ok (.lcmp, 1) := by decide +kernel
theorem dL_law_2216 : decode cL_law 2216 = .ok (.ifCond .eq 5, 3) := by decide +kernel
theorem dL_law_2219 : decode cL_law 2219 = .ok (.iconst 0, 1) := by decide +kernel
theorem dL_law_2220 : decode cL_law 2220 = .ok (.ireturn, 1) := by decide +kernel
theorem dL_law_2221 : decode cL_law 2221 = .ok (.goto 659, 3) := by decide +kernel
theorem dL_law_2224 : decode cL_law 2224 = .ok (.aload_n 1, 1) := by decide +kernel
theorem dL_law_2225 : decode cL_law 2225 = .ok (.aload_n 0, 1) := by decide +kernel
theorem dL_law_2226 : decode cL_law 2226 = .ok (.iload 5, 2) := by decide +kernel
theorem dL_law_2228 : decode cL_law 2228 = .ok (.iconst 1, 1) := by decide +kernel
theorem dL_law_2229 : decode cL_law 2229 = .ok (.iadd, 1) := by decide +kernel
theorem dL_law_2230 : decode cL_law 2230 = .ok (.iaload, 1) := by decide +kernel
theorem dL_law_2231 : decode cL_law 2231 = .ok (.aload_n 0, 1) := by decide +kernel
theorem dL_law_2232 : decode cL_law 2232 = .ok (.iload 5, 2) := by decide +kernel
theorem dL_law_2234 : decode cL_law 2234 = .ok (.iconst 2, 1) := by decide +kernel
theorem dL_law_2235 : decode cL_law 2235 = .ok (.iadd, 1) := by decide +kernel
theorem dL_law_2236 : decode cL_law 2236 = .ok (.iaload, 1) := by decide +kernel
theorem dL_law_2237 : decode cL_law 2237 = .ok (.aload_n 3, 1) := by decide +kernel
theorem dL_law_2238 : decode cL_law 2238 = .ok (.invokestatic 242, 3) := by decide +kernel
end
section
theorem dL_law_2241 : decode cL_law 2241 = .ok (.istore 6, 2) := by decide +kernel
theorem dL_law_2243 : decode cL_law 2243 = .ok (.aload_n 2, 1) := by decide +kernel
theorem dL_law_2244 : decode cL_law 2244 = .ok (.aload_n 0, 1) := by decide +kernel
theorem dL_law_2245 : decode cL_law 2245 = .ok (.iload 5, 2) := by decide +kernel
theorem dL_law_2247 : decode cL_law 2247 = .ok (.iconst 1, 1) := by decide +kernel
theorem dL_law_2248 : decode cL_law 2248 = .ok (.iadd, 1) := by decide +kernel
theorem dL_law_2249 : decode cL_law 2249 = .ok (.iaload, 1) := by decide +kernel
theorem dL_law_2250 : decode cL_law 2250 = .ok (.aload_n 0, 1) := by decide +kernel
theorem dL_law_2251 : decode cL_law 2251 = .ok (.iload 5, 2) := by decide +kernel
theorem dL_law_2253 : decode cL_law 2253 = .ok (.iconst 2, 1) := by decide +kernel
theorem dL_law_2254 : decode cL_law 2254 = .ok (.iadd, 1) := by decide +kernel
theorem dL_law_2255 : decode cL_law 2255 = .ok (.iaload, 1) := by decide +kernel
theorem dL_law_2256 : decode cL_law 2256 = .ok (.invokevirtual 244, 3) := by decide +kernel
theorem dL_law_2259 : decode cL_law 2259 = .ok (.istore 7, 2) := by decide +kernel
theorem dL_law_2261 : decode cL_law 2261 = .ok (.aload_n 2, 1) := by decide +kernel
theorem dL_law_2262 : decode cL_law 2262 = .ok (.invokevirtual 151, 3) := by decide +kernel
theorem dL_law_2265 : decode cL_law 2265 = .ok (.iload 6, 2) := by decide +kernel
theorem dL_law_2267 : decode cL_law 2267 = .ok (.if_icmp .eq 5, 3) := by decide +kernel
theorem dL_law_2270 : decode cL_law 2270 = .ok (.iconst 0, 1) := by decide +kernel
theorem dL_law_2271 : decode cL_law 2271 = .ok (.ireturn, 1) := by decide +kernel
theorem dL_law_2272 : decode cL_law 2272 = .ok (.iload 6, 2) := by decide +kernel
theorem dL_law_2274 : decode cL_law 2274 = .ok (.ifCond .ne 22, 3) := by decide +kernel
theorem dL_law_2277 : decode cL_law 2277 = .ok (.aload_n 3, 1) := by decide +kernel
theorem dL_law_2278 : decode cL_law 2278 = .ok (.iconst 0, 1) := by decide +kernel
theorem dL_law_2279 : decode cL_law 2279 = .ok (.laload, 1) := by decide +kernel
theorem dL_law_2280 : decode cL_law 2280 = .ok (.iload 7, 2) := by decide +kernel
theorem dL_law_2282 : decode cL_law 2282 = .ok (.ifCond .eq 7, 3) := by decide +kernel
theorem dL_law_2285 : decode cL_law 2285 = .ok (.lconst 1, 1) := by decide +kernel
theorem dL_law_2286 : decode cL_law 2286 = .ok (.goto 4, 3) := by decide +kernel
theorem dL_law_2289 : decode cL_law 2289 = .ok (.lconst 0, 1) := by decide +kernel
theorem dL_law_2290 : decode cL_law 2290 = .ok (.lcmp, 1) := by decide +kernel
theorem dL_law_2291 : decode cL_law 2291 = .ok (.ifCond .eq 5, 3) := by decide +kernel
theorem dL_law_2294 : decode cL_law 2294 = .ok (.iconst 0, 1) := by decide +kernel
theorem dL_law_2295 : decode cL_law 2295 = .ok (.ireturn, 1) := by decide +kernel
theorem dL_law_2296 : decode cL_law 2296 = .ok (.goto 584, 3) := by decide +kernel
theorem dL_law_2299 : decode cL_law 2299 = .ok (.aload_n 1, 1) := by decide +kernel
theorem dL_law_2300 : decode cL_law 2300 = .ok (.aload_n 0, 1) := by decide +kernel
theorem dL_law_2301 : decode cL_law 2301 = .ok (.iload 5, 2) := by decide +kernel
theorem dL_law_2303 : decode cL_law 2303 = .ok (.iconst 1, 1) := by decide +kernel
theorem dL_law_2304 : decode cL_law 2304 = .ok (.iadd, 1) := by decide +kernel
theorem dL_law_2305 : decode cL_law 2305 = .ok (.iaload, 1) := by decide +kernel
theorem dL_law_2306 : decode cL_law 2306 = .ok (.aload_n 0, 1) := by decide +kernel
theorem dL_law_2307 : decode cL_law 2307 = .ok (.iload 5, 2) := by decide +kernel
theorem dL_law_2309 : decode cL_law 2309 = .ok (.iconst 2, 1) := by decide +kernel
theorem dL_law_2310 : decode cL_law 2310 = .ok (.iadd, 1) := by decide +kernel
theorem dL_law_2311 : decode cL_law 2311 = .ok (.iaload, 1) := by decide +kernel
theorem dL_law_2312 : decode cL_law 2312 = .ok (.aload_n 3, 1) := by decide +kernel
theorem dL_law_2313 : decode cL_law 2313 = .ok (.invokestatic 245, 3) := by decide +kernel
theorem dL_law_2316 : decode cL_law 2316 = .ok (.istore 6, 2) := by decide +kernel
theorem dL_law_2318 : decode cL_law 2318 = .ok (.aload_n 2, 1) := by decide +kernel
theorem dL_law_2319 : decode cL_law 2319 = .ok (.aload_n 0, 1) := by decide +kernel
theorem dL_law_2320 : decode cL_law 2320 = .ok (.iload 5, 2) := by decide +kernel
theorem dL_law_2322 : decode cL_law 2322 = .ok (.iconst 1, 1) := by decide +kernel
theorem dL_law_2323 : decode cL_law 2323 = .ok (.iadd, 1) := by decide +kernel
theorem dL_law_2324 : decode cL_law 2324 = .ok (.iaload, 1) := by decide +kernel
theorem dL_law_2325 : decode cL_law 2325 = .ok (.aload_n 0, 1) := by decide +kernel
theorem dL_law_2326 : decode cL_law 2326 = .ok (.iload 5, 2) := by decide +kernel
theorem dL_law_2328 : decode cL_law 2328 = .ok (.iconst 2, 1) := by decide +kernel
theorem dL_law_2329 : decode cL_law 2329 = .ok (.iadd, 1) := by decide +kernel
theorem dL_law_2330 : decode cL_law 2330 = .ok (.iaload, 1) := by decide +kernel
theorem dL_law_2331 : decode cL_law 2331 = .ok (.invokevirtual 247, 3) := by decide +kernel
theorem dL_law_2334 : decode cL_law 2334 = .ok (.istore 7, 2) := by decide +kernel
theorem dL_law_2336 : decode cL_law 2336 = .ok (.aload_n 2, 1) := by decide +kernel
theorem dL_law_2337 : decode cL_law 2337 = .ok (.invokevirtual 151, 3) := by decide +kernel
theorem dL_law_2340 : decode cL_law 2340 = .ok (.iload 6, 2) := by decide +kernel
theorem dL_law_2342 : decode cL_law 2342 = .ok (.if_icmp .eq 5, 3) := by decide +kernel
theorem dL_law_2345 : decode cL_law 2345 = .ok (.iconst 0, 1) := by decide +kernel
theorem dL_law_2346 : decode cL_law 2346 = .ok (.ireturn, 1) := by decide +kernel
theorem dL_law_2347 : decode cL_law 2347 = .ok (.iload 6, 2) := by decide +kernel
theorem dL_law_2349 : decode cL_law 2349 = .ok (.ifCond .ne 22, 3) := by decide +kernel
theorem dL_law_2352 : decode cL_law 2352 = .ok (.aload_n 3, 1) := by decide +kernel
theorem dL_law_2353 : decode cL_law 2353 = .ok (.iconst 0, 1) := by decide +kernel
theorem dL_law_2354 : decode cL_law 2354 = .ok (.laload, 1) := by decide +kernel
theorem dL_law_2355 : decode cL_law 2355 = .ok (.iload 7, 2) := by decide +kernel
theorem dL_law_2357 : decode cL_law 2357 = .ok (.ifCond .eq 7, 3) := by decide +kernel
theorem dL_law_2360 : decode cL_law 2360 = .ok (.lconst 1, 1) := by decide +kernel
theorem dL_law_2361 : decode cL_law 2361 = .ok (.goto 4, 3) := by decide +kernel
theorem dL_law_2364 : decode cL_law 2364 = .ok (.lconst 0, 1) := by decide +kernel
theorem dL_law_2365 : decode cL_law 2365 = .ok (.lcmp, 1) := by decide +kernel
theorem dL_law_2366 : decode cL_law 2366 = .ok (.ifCond .eq 5, 3) := by decide +kernel
theorem dL_law_2369 : decode cL_law 2369 = .ok (.iconst 0, 1) := by decide +kernel
theorem dL_law_2370 : decode cL_law 2370 = .ok (.ireturn, 1) := by decide +kernel
theorem dL_law_2371 : decode cL_law 2371 = .ok (.goto 509, 3) := by decide +kernel
theorem dL_law_2374 : decode cL_law 2374 = .ok (.aload_n 1, 1) := by decide +kernel
theorem dL_law_2375 : decode cL_law 2375 = .ok (.aload_n 0, 1) := by decide +kernel
theorem dL_law_2376 : decode cL_law 2376 = .ok (.iload 5, 2) := by decide +kernel
theorem dL_law_2378 : decode cL_law 2378 = .ok (.iconst 1, 1) := by decide +kernel
theorem dL_law_2379 : decode cL_law 2379 = .ok (.iadd, 1) := by decide +kernel
theorem dL_law_2380 : decode cL_law 2380 = .ok (.iaload, 1) := by decide +kernel
theorem dL_law_2381 : decode cL_law 2381 = .ok (.aload_n 3, 1) := by decide +kernel
theorem dL_law_2382 : decode cL_law 2382 = .ok (.invokestatic 248, 3) := by decide +kernel
theorem dL_law_2385 : decode cL_law 2385 = .ok (.istore 6, 2) := by decide +kernel
theorem dL_law_2387 : decode cL_law 2387 = .ok (.aload_n 2, 1) := by decide +kernel
theorem dL_law_2388 : decode cL_law 2388 = .ok (.aload_n 0, 1) := by decide +kernel
theorem dL_law_2389 : decode cL_law 2389 = .ok (.iload 5, 2) := by decide +kernel
theorem dL_law_2391 : decode cL_law 2391 = .ok (.iconst 1, 1) := by decide +kernel
theorem dL_law_2392 : decode cL_law 2392 = .ok (.iadd, 1) := by decide +kernel
theorem dL_law_2393 : decode cL_law 2393 = .ok (.iaload, 1) := by decide +kernel
theorem dL_law_2394 : decode cL_law 2394 = .ok (.invokevirtual 250, 3) := by decide +kernel
theorem dL_law_2397 : decode cL_law 2397 = .ok (.istore 7, 2) := by decide +kernel
theorem dL_law_2399 : decode cL_law 2399 = .ok (.aload_n 2, 1) := by decide +kernel
theorem dL_law_2400 : decode cL_law 2400 = .ok (.invokevirtual 151, 3) := by decide +kernel
theorem dL_law_2403 : decode cL_law 2403 = .ok (.iload 6, 2) := by decide +kernel
theorem dL_law_2405 : decode cL_law 2405 = .ok (.if_icmp .eq 5, 3) := by decide +kernel
theorem dL_law_2408 : decode cL_law 2408 = .ok (.iconst 0, 1) := by decide +kernel
theorem dL_law_2409 : decode cL_law 2409 = .ok (.ireturn, 1) := by decide +kernel
theorem dL_law_2410 : decode cL_law 2410 = .ok (.iload 6, 2) := by decide +kernel
theorem dL_law_2412 : decode cL_law 2412 = .ok (.ifCond .ne 15, 3) := by decide +kernel
theorem dL_law_2415 : decode cL_law 2415 = .ok (.aload_n 3, 1) := by decide +kernel
theorem dL_law_2416 : decode cL_law 2416 = .ok (.iconst 0, 1) := by decide +kernel
theorem dL_law_2417 : decode cL_law 2417 = .ok (.laload, 1) := by decide +kernel
theorem dL_law_2418 : decode cL_law 2418 = .ok (.iload 7, 2) := by decide +kernel
theorem dL_law_2420 : decode cL_law 2420 = .ok (.i2l, 1) := by decide +kernel
theorem dL_law_2421 : decode cL_law 2421 = .ok (.lcmp, 1) := by decide +kernel
theorem dL_law_2422 : decode cL_law 2422 = .ok (.ifCond .eq 5, 3) := by decide +kernel
theorem dL_law_2425 : decode cL_law 2425 = .ok (.iconst 0, 1) := by decide +kernel
theorem dL_law_2426 : decode cL_law 2426 = .ok (.ireturn, 1) := by decide +kernel
theorem dL_law_2427 : decode cL_law 2427 = .ok (.goto 453, 3) := by decide +kernel
theorem dL_law_2430 : decode cL_law 2430 = .ok (.aload_n 1, 1) := by decide +kernel
theorem dL_law_2431 : decode cL_law 2431 = .ok (.aload_n 0, 1) := by decide +kernel
theorem dL_law_2432 : decode cL_law 2432 = .ok (.iload 5, 2) := by decide +kernel
theorem dL_law_2434 : decode cL_law 2434 = .ok (.iconst 1, 1) := by decide +kernel
theorem dL_law_2435 : decode cL_law 2435 = .ok (.iadd, 1) := by decide +kernel
theorem dL_law_2436 : decode cL_law 2436 = .ok (.iaload, 1) := by decide +kernel
theorem dL_law_2437 : decode cL_law 2437 = .ok (.aload_n 3, 1) := by decide +kernel
theorem dL_law_2438 : decode cL_law 2438 = .ok (.invokestatic 251, 3) := by decide +kernel
theorem dL_law_2441 : decode cL_law 2441 = .ok (.istore 6, 2) := by decide +kernel
theorem dL_law_2443 : decode cL_law 2443 = .ok (.aload_n 2, 1) := by decide +kernel
theorem dL_law_2444 : decode cL_law 2444 = .ok (.aload_n 0, 1) := by decide +kernel
theorem dL_law_2445 : decode cL_law 2445 = .ok (.iload 5, 2) := by decide +kernel
theorem dL_law_2447 : decode cL_law 2447 = .ok (.iconst 1, 1) := by decide +kernel
theorem dL_law_2448 : decode cL_law 2448 = .ok (.iadd, 1) := by decide +kernel
theorem dL_law_2449 : decode cL_law 2449 = .ok (.iaload, 1) := by decide +kernel
theorem dL_law_2450 : decode cL_law 2450 = .ok (.invokevirtual 253, 3) := by decide +kernel
theorem dL_law_2453 : decode cL_law 2453 = .ok (.lstore 7, 2) := by decide +kernel
theorem dL_law_2455 : decode cL_law 2455 = .ok (.aload_n 2, 1) := by decide +kernel
theorem dL_law_2456 : decode cL_law 2456 = .ok (.invokevirtual 151, 3) := by decide +kernel
theorem dL_law_2459 : decode cL_law 2459 = .ok (.iload 6, 2) := by decide +kernel
theorem dL_law_2461 : decode cL_law 2461 = .ok (.if_icmp .eq 5, 3) := by decide +kernel
theorem dL_law_2464 : decode cL_law 2464 = .ok (.iconst 0, 1) := by decide +kernel
theorem dL_law_2465 : decode cL_law 2465 = .ok (.ireturn, 1) := by decide +kernel
theorem dL_law_2466 : decode cL_law 2466 = .ok (.iload 6, 2) := by decide +kernel
theorem dL_law_2468 : decode cL_law 2468 = .ok (.ifCond .ne 14, 3) := by decide +kernel
theorem dL_law_2471 : decode cL_law 2471 = .ok (.aload_n 3, 1) := by decide +kernel
theorem dL_law_2472 : decode cL_law 2472 = .ok (.iconst 0, 1) := by decide +kernel
theorem dL_law_2473 : decode cL_law 2473 = .ok (.laload, 1) := by decide +kernel
theorem dL_law_2474 : decode cL_law 2474 = .ok (.lload 7, 2) := by decide +kernel
theorem dL_law_2476 : decode cL_law 2476 = .ok (.lcmp, 1) := by decide +kernel
theorem dL_law_2477 : decode cL_law 2477 = .ok (.ifCond .eq 5, 3) := by decide +kernel
theorem dL_law_2480 : decode cL_law 2480 = .ok (.iconst 0, 1) := by decide +kernel
theorem dL_law_2481 : decode cL_law 2481 = .ok (.ireturn, 1) := by decide +kernel
theorem dL_law_2482 : decode cL_law 2482 = .ok (.goto 398, 3) := by decide +kernel
theorem dL_law_2485 : decode cL_law 2485 = .ok (.aload_n 1, 1) := by decide +kernel
theorem dL_law_2486 : decode cL_law 2486 = .ok (.aload_n 0, 1) := by decide +kernel
theorem dL_law_2487 : decode cL_law 2487 = .ok (.iload 5, 2) := by decide +kernel
theorem dL_law_2489 : decode cL_law 2489 = .ok (.iconst 1, 1) := by decide +kernel
theorem dL_law_2490 : decode cL_law 2490 = .ok (.iadd, 1) := by decide +kernel
theorem dL_law_2491 : decode cL_law 2491 = .ok (.iaload, 1) := by decide +kernel
theorem dL_law_2492 : decode cL_law 2492 = .ok (.aload_n 3, 1) := by decide +kernel
theorem dL_law_2493 : decode cL_law 2493 = .ok (.invokestatic 254, 3) := by decide +kernel
theorem dL_law_2496 : decode cL_law 2496 = .ok (.istore 6, 2) := by decide +kernel
theorem dL_law_2498 : decode cL_law 2498 = .ok (.aload_n 2, 1) := by decide +kernel
theorem dL_law_2499 : decode cL_law 2499 = .ok (.aload_n 0, 1) := by decide +kernel
theorem dL_law_2500 : decode cL_law 2500 = .ok (.iload 5, 2) := by decide +kernel
theorem dL_law_2502 : decode cL_law 2502 = .ok (.iconst 1, 1) := by decide +kernel
theorem dL_law_2503 : decode cL_law 2503 = .ok (.iadd, 1) := by decide +kernel
theorem dL_law_2504 : decode cL_law 2504 = .ok (.iaload, 1) := by decide +kernel
theorem dL_law_2505 : decode cL_law 2505 = .ok (.invokevirtual 256, 3) := by decide +kernel
theorem dL_law_2508 : decode cL_law 2508 = .ok (.istore 7, 2) := by decide +kernel
theorem dL_law_2510 : decode cL_law 2510 = .ok (.aload_n 2, 1) := by decide +kernel
theorem dL_law_2511 : decode cL_law 2511 = .ok (.invokevirtual 151, 3) := by decide +kernel
theorem dL_law_2514 : decode cL_law 2514 = .ok (.iload 6, 2) := by decide +kernel
theorem dL_law_2516 : decode cL_law 2516 = .ok (.if_icmp .eq 5, 3) := by decide +kernel
theorem dL_law_2519 : decode cL_law 2519 = .ok (.iconst 0, 1) := by decide +kernel
theorem dL_law_2520 : decode cL_law 2520 = .ok (.ireturn, 1) := by decide +kernel
theorem dL_law_2521 : decode cL_law 2521 = .ok (.iload 6, 2) := by decide +kernel
theorem dL_law_2523 : decode cL_law 2523 = .ok (.ifCond .ne 15, 3) := by decide +kernel
theorem dL_law_2526 : decode cL_law 2526 = .ok (.aload_n 3, 1) := by decide +kernel
theorem dL_law_2527 : decode cL_law 2527 = .ok (.iconst 0, 1) := by decide +kernel
theorem dL_law_2528 : decode cL_law 2528 = .ok (.laload, 1) := by decide +kernel
theorem dL_law_2529 : decode cL_law 2529 = .ok (.iload 7, 2) := by decide +kernel
theorem dL_law_2531 : decode cL_law 2531 = .ok (.i2l, 1) := by decide +kernel
theorem dL_law_2532 : decode cL_law 2532 = .ok (.lcmp, 1) := by decide +kernel
theorem dL_law_2533 : decode cL_law 2533 = .ok (.ifCond .eq 5, 3) := by decide +kernel
theorem dL_law_2536 : decode cL_law 2536 = .ok (.iconst 0, 1) := by decide +kernel
theorem dL_law_2537 : decode cL_law 2537 = .ok (.ireturn, 1) := by decide +kernel
theorem dL_law_2538 : decode cL_law 2538 = .ok (.goto 342, 3) := by decide +kernel
theorem dL_law_2541 : decode cL_law 2541 = .ok (.aload_n 1, 1) := by decide +kernel
theorem dL_law_2542 : decode cL_law 2542 = .ok (.aload_n 0, 1) := by decide +kernel
theorem dL_law_2543 : decode cL_law 2543 = .ok (.iload 5, 2) := by decide +kernel
theorem dL_law_2545 : decode cL_law 2545 = .ok (.iconst 1, 1) := by decide +kernel
theorem dL_law_2546 : decode cL_law 2546 = .ok (.iadd, 1) := by decide +kernel
theorem dL_law_2547 : decode cL_law 2547 = .ok (.iaload, 1) := by decide +kernel
theorem dL_law_2548 : decode cL_law 2548 = .ok (.aload_n 3, 1) := by decide +kernel
theorem dL_law_2549 : decode cL_law 2549 = .ok (.invokestatic 257, 3) := by decide +kernel
theorem dL_law_2552 : decode cL_law 2552 = .ok (.istore 6, 2) := by decide +kernel
theorem dL_law_2554 : decode cL_law 2554 = .ok (.aload_n 2, 1) := by decide +kernel
theorem dL_law_2555 : decode cL_law 2555 = .ok (.aload_n 0, 1) := by decide +kernel
theorem dL_law_2556 : decode cL_law 2556 = .ok (.iload 5, 2) := by decide +kernel
theorem dL_law_2558 : decode cL_law 2558 = .ok (.iconst 1, 1) := by decide +kernel
theorem dL_law_2559 : decode cL_law 2559 = .ok (.iadd, 1) := by decide +kernel
theorem dL_law_2560 : decode cL_law 2560 = .ok (.iaload, 1) := by decide +kernel
theorem dL_law_2561 : decode cL_law 2561 = .ok (.invokevirtual 259, 3) := by decide +kernel
theorem dL_law_2564 : decode cL_law 2564 = .ok (.istore 7, 2) := by decide +kernel
theorem dL_law_2566 : decode cL_law 2566 = .ok (.aload_n 2, 1) := by decide +kernel
theorem dL_law_2567 : decode cL_law 2567 = .ok (.invokevirtual 151, 3) := by decide +kernel
theorem dL_law_2570 : decode cL_law 2570 = .ok (.iload 6, 2) := by decide +kernel
theorem dL_law_2572 : decode cL_law 2572 = .ok (.if_icmp .eq 5, 3) := by decide +kernel
theorem dL_law_2575 : decode cL_law 2575 = .ok (.iconst 0, 1) := by decide +kernel
theorem dL_law_2576 : decode cL_law 2576 = .ok (.ireturn, 1) := by decide +kernel
theorem dL_law_2577 : decode cL_law 2577 = .ok (.iload 6, 2) := by decide +kernel
theorem dL_law_2579 : decode cL_law 2579 = .ok (.ifCond .ne 15, 3) := by decide +kernel
theorem dL_law_2582 : decode cL_law 2582 = .ok (.aload_n 3, 1) := by decide +kernel
theorem dL_law_2583 : decode cL_law 2583 = .ok (.iconst 0, 1) := by decide +kernel
theorem dL_law_2584 : decode cL_law 2584 = .ok (.laload, 1) := by decide +kernel
theorem dL_law_2585 : decode cL_law 2585 = .ok (.iload 7, 2) := by decide +kernel
theorem dL_law_2587 : decode cL_law 2587 = .ok (.i2l, 1) := by decide +kernel
theorem dL_law_2588 : decode cL_law 2588 = .ok (.lcmp, 1) := by decide +kernel
theorem dL_law_2589 : decode cL_law 2589 = .ok (.ifCond .eq 5, 3) := by decide +kernel
theorem dL_law_2592 : decode cL_law 2592 = .ok (.iconst 0, 1) := by decide +kernel
theorem dL_law_2593 : decode cL_law 2593 = .ok (.ireturn, 1) := by decide +kernel
theorem dL_law_2594 : decode cL_law 2594 = .ok (.goto 286, 3) := by decide +kernel
theorem dL_law_2597 : decode cL_law 2597 = .ok (.aload_n 1, 1) := by decide +kernel
theorem dL_law_2598 : decode cL_law 2598 = .ok (.aload_n 0, 1) := by decide +kernel
theorem dL_law_2599 : decode cL_law 2599 = .ok (.iload 5, 2) := by decide +kernel
theorem dL_law_2601 : decode cL_law 2601 = .ok (.iconst 1, 1) := by decide +kernel
theorem dL_law_2602 : decode cL_law 2602 = .ok (.iadd, 1) := by decide +kernel
theorem dL_law_2603 : decode cL_law 2603 = .ok (.iaload, 1) := by decide +kernel
theorem dL_law_2604 : decode cL_law 2604 = .ok (.aload_n 0, 1) := by decide +kernel
theorem dL_law_2605 : decode cL_law 2605 = .ok (.iload 5, 2) := by decide +kernel
theorem dL_law_2607 : decode cL_law 2607 = .ok (.iconst 2, 1) := by decide +kernel
theorem dL_law_2608 : decode cL_law 2608 = .ok (.iadd, 1) := by decide +kernel
theorem dL_law_2609 : decode cL_law 2609 = .ok (.iaload, 1) := by decide +kernel
theorem dL_law_2610 : decode cL_law 2610 = .ok (.aload_n 3, 1) := by decide +kernel
theorem dL_law_2611 : decode cL_law 2611 = .ok (.invokestatic 260, 3) := by decide +kernel
theorem dL_law_2614 : decode cL_law 2614 = .ok (.istore 6, 2) := by decide +kernel
theorem dL_law_2616 : decode cL_law 2616 = .ok (.aload_n 2, 1) := by decide +kernel
theorem dL_law_2617 : decode cL_law 2617 = .ok (.aload_n 0, 1) := by decide +kernel
theorem dL_law_2618 : decode cL_law 2618 = .ok (.iload 5, 2) := by decide +kernel
theorem dL_law_2620 : decode cL_law 2620 = .ok (.iconst 1, 1) := by decide +kernel
theorem dL_law_2621 : decode cL_law 2621 = .ok (.iadd, 1) := by decide +kernel
theorem dL_law_2622 : decode cL_law 2622 = .ok (.iaload, 1) := by decide +kernel
theorem dL_law_2623 : decode cL_law 2623 = .ok (.aload_n 0, 1) := by decide +kernel
theorem dL_law_2624 : decode cL_law 2624 = .ok (.iload 5, 2) := by decide +kernel
theorem dL_law_2626 : decode cL_law 2626 = .ok (.iconst 2, 1) := by decide +kernel
theorem dL_law_2627 : decode cL_law 2627 = .ok (.iadd, 1) := by decide +kernel
theorem dL_law_2628 : decode cL_law 2628 = .ok (.iaload, 1) := by decide +kernel
theorem dL_law_2629 : decode cL_law 2629 = .ok (.invokevirtual 262, 3) := by decide +kernel
theorem dL_law_2632 : decode cL_law 2632 = .ok (.istore 7, 2) := by decide +kernel
theorem dL_law_2634 : decode cL_law 2634 = .ok (.aload_n 2, 1) := by decide +kernel
theorem dL_law_2635 : decode cL_law 2635 = .ok (.invokevirtual 151, 3) := by decide +kernel
theorem dL_law_2638 : decode cL_law 2638 = .ok (.iload 6, 2) := by decide +kernel
theorem dL_law_2640 : decode cL_law 2640 = .ok (.if_icmp .eq 5, 3) := by decide +kernel
theorem dL_law_2643 : decode cL_law 2643 = .ok (.iconst 0, 1) := by decide +kernel
theorem dL_law_2644 : decode cL_law 2644 = .ok (.ireturn, 1) := by decide +kernel
theorem dL_law_2645 : decode cL_law 2645 = .ok (.iload 6, 2) := by decide +kernel
theorem dL_law_2647 : decode cL_law 2647 = .ok (.ifCond .ne 22, 3) := by decide +kernel
theorem dL_law_2650 : decode cL_law 2650 = .ok (.aload_n 3, 1) := by decide +kernel
theorem dL_law_2651 : decode cL_law 2651 = .ok (.iconst 0, 1) := by decide +kernel
theorem dL_law_2652 : decode cL_law 2652 = .ok (.laload, 1) := by decide +kernel
theorem dL_law_2653 : decode cL_law 2653 = .ok (.iload 7, 2) := by decide +kernel
theorem dL_law_2655 : decode cL_law 2655 = .ok (.ifCond .eq 7, 3) := by decide +kernel
theorem dL_law_2658 : decode cL_law 2658 = .ok (.lconst 1, 1) := by decide +kernel
theorem dL_law_2659 : decode cL_law 2659 = .ok (.goto 4, 3) := by decide +kernel
theorem dL_law_2662 : decode cL_law 2662 = .ok (.lconst 0, 1) := by decide +kernel
theorem dL_law_2663 : decode cL_law 2663 = .ok (.lcmp, 1) := by decide +kernel
theorem dL_law_2664 : decode cL_law 2664 = .ok (.ifCond .eq 5, 3) := by decide +kernel
theorem dL_law_2667 : decode cL_law 2667 = .ok (.iconst 0, 1) := by decide +kernel
theorem dL_law_2668 : decode cL_law 2668 = .ok (.ireturn, 1) := by decide +kernel
theorem dL_law_2669 : decode cL_law 2669 = .ok (.goto 211, 3) := by decide +kernel
theorem dL_law_2672 : decode cL_law 2672 = .ok (.aload_n 1, 1) := by decide +kernel
theorem dL_law_2673 : decode cL_law 2673 = .ok (.aload_n 0, 1) := by decide +kernel
theorem dL_law_2674 : decode cL_law 2674 = .ok (.iload 5, 2) := by decide +kernel
theorem dL_law_2676 : decode cL_law 2676 = .ok (.iconst 1, 1) := by decide +kernel
theorem dL_law_2677 : decode cL_law 2677 = .ok (.iadd, 1) := by decide +kernel
theorem dL_law_2678 : decode cL_law 2678 = .ok (.iaload, 1) := by decide +kernel
theorem dL_law_2679 : decode cL_law 2679 = .ok (.aload_n 0, 1) := by decide +kernel
theorem dL_law_2680 : decode cL_law 2680 = .ok (.iload 5, 2) := by decide +kernel
theorem dL_law_2682 : decode cL_law 2682 = .ok (.iconst 2, 1) := by decide +kernel
theorem dL_law_2683 : decode cL_law 2683 = .ok (.iadd, 1) := by decide +kernel
theorem dL_law_2684 : decode cL_law 2684 = .ok (.iaload, 1) := by decide +kernel
theorem dL_law_2685 : decode cL_law 2685 = .ok (.aload_n 3, 1) := by decide +kernel
theorem dL_law_2686 : decode cL_law 2686 = .ok (.invokestatic 263, 3) := by decide +kernel
theorem dL_law_2689 : decode cL_law 2689 = .ok (.istore 6, 2) := by decide +kernel
theorem dL_law_2691 : decode cL_law 2691 = .ok (.aload_n 2, 1) := by decide +kernel
theorem dL_law_2692 : decode cL_law 2692 = .ok (.aload_n 0, 1) := by decide +kernel
theorem dL_law_2693 : decode cL_law 2693 = .ok (.iload 5, 2) := by decide +kernel
theorem dL_law_2695 : decode cL_law 2695 = .ok (.iconst 1, 1) := by decide +kernel
theorem dL_law_2696 : decode cL_law 2696 = .ok (.iadd, 1) := by decide +kernel
theorem dL_law_2697 : decode cL_law 2697 = .ok (.iaload, 1) := by decide +kernel
theorem dL_law_2698 : decode cL_law 2698 = .ok (.aload_n 0, 1) := by decide +kernel
theorem dL_law_2699 : decode cL_law 2699 = .ok (.iload 5, 2) := by decide +kernel
theorem dL_law_2701 : decode cL_law 2701 = .ok (.iconst 2, 1) := by decide +kernel
theorem dL_law_2702 : decode cL_law 2702 = .ok (.iadd, 1) := by decide +kernel
theorem dL_law_2703 : decode cL_law 2703 = .ok (.iaload, 1) := by decide +kernel
theorem dL_law_2704 : decode cL_law 2704 = .ok (.invokevirtual 265, 3) := by decide +kernel
theorem dL_law_2707 : decode cL_law 2707 = .ok (.istore 7, 2) := by decide +kernel
theorem dL_law_2709 : decode cL_law 2709 = .ok (.aload_n 2, 1) := by decide +kernel
theorem dL_law_2710 : decode cL_law 2710 = .ok (.invokevirtual 151, 3) := by decide +kernel
theorem dL_law_2713 : decode cL_law 2713 = .ok (.iload 6, 2) := by decide +kernel
theorem dL_law_2715 : decode cL_law 2715 = .ok (.if_icmp .eq 5, 3) := by decide +kernel
theorem dL_law_2718 : decode cL_law 2718 = .ok (.iconst 0, 1) := by decide +kernel
theorem dL_law_2719 : decode cL_law 2719 = .ok (.ireturn, 1) := by decide +kernel
theorem dL_law_2720 : decode cL_law 2720 = .ok (.iload 6, 2) := by decide +kernel
theorem dL_law_2722 : decode cL_law 2722 = .ok (.ifCond .ne 22, 3) := by decide +kernel
theorem dL_law_2725 : decode cL_law 2725 = .ok (.aload_n 3, 1) := by decide +kernel
theorem dL_law_2726 : decode cL_law 2726 = .ok (.iconst 0, 1) := by decide +kernel
theorem dL_law_2727 : decode cL_law 2727 = .ok (.laload, 1) := by decide +kernel
theorem dL_law_2728 : decode cL_law 2728 = .ok (.iload 7, 2) := by decide +kernel
theorem dL_law_2730 : decode cL_law 2730 = .ok (.ifCond .eq 7, 3) := by decide +kernel
theorem dL_law_2733 : decode cL_law 2733 = .ok (.lconst 1, 1) := by decide +kernel
theorem dL_law_2734 : decode cL_law 2734 = .ok (.goto 4, 3) := by decide +kernel
theorem dL_law_2737 : decode cL_law 2737 = .ok (.lconst 0, 1) := by decide +kernel
theorem dL_law_2738 : decode cL_law 2738 = .ok (.lcmp, 1) := by decide +kernel
theorem dL_law_2739 : decode cL_law 2739 = .ok (.ifCond .eq 5, 3) := by decide +kernel
theorem dL_law_2742 : decode cL_law 2742 = .ok (.iconst 0, 1) := by decide +kernel
theorem dL_law_2743 : decode cL_law 2743 = .ok (.ireturn, 1) := by decide +kernel
theorem dL_law_2744 : decode cL_law 2744 = .ok (.goto 136, 3) := by decide +kernel
theorem dL_law_2747 : decode cL_law 2747 = .ok (.aload_n 1, 1) := by decide +kernel
theorem dL_law_2748 : decode cL_law 2748 = .ok (.aload_n 0, 1) := by decide +kernel
theorem dL_law_2749 : decode cL_law 2749 = .ok (.iload 5, 2) := by decide +kernel
theorem dL_law_2751 : decode cL_law 2751 = .ok (.iconst 1, 1) := by decide +kernel
theorem dL_law_2752 : decode cL_law 2752 = .ok (.iadd, 1) := by decide +kernel
theorem dL_law_2753 : decode cL_law 2753 = .ok (.iaload, 1) := by decide +kernel
theorem dL_law_2754 : decode cL_law 2754 = .ok (.aload 4, 2) := by decide +kernel
theorem dL_law_2756 : decode cL_law 2756 = .ok (.invokestatic 266, 3) := by decide +kernel
theorem dL_law_2759 : decode cL_law 2759 = .ok (.istore 6, 2) := by decide +kernel
theorem dL_law_2761 : decode cL_law 2761 = .ok (.aload_n 2, 1) := by decide +kernel
theorem dL_law_2762 : decode cL_law 2762 = .ok (.aload_n 0, 1) := by decide +kernel
theorem dL_law_2763 : decode cL_law 2763 = .ok (.iload 5, 2) := by decide +kernel
theorem dL_law_2765 : decode cL_law 2765 = .ok (.iconst 1, 1) := by decide +kernel
theorem dL_law_2766 : decode cL_law 2766 = .ok (.iadd, 1) := by decide +kernel
theorem dL_law_2767 : decode cL_law 2767 = .ok (.iaload, 1) := by decide +kernel
theorem dL_law_2768 : decode cL_law 2768 = .ok (.invokevirtual 269, 3) := by decide +kernel
theorem dL_law_2771 : decode cL_law 2771 = .ok (.dstore 7, 2) := by decide +kernel
theorem dL_law_2773 : decode cL_law 2773 = .ok (.aload_n 2, 1) := by decide +kernel
theorem dL_law_2774 : decode cL_law 2774 = .ok (.invokevirtual 151, 3) := by decide +kernel
theorem dL_law_2777 : decode cL_law 2777 = .ok (.iload 6, 2) := by decide +kernel
theorem dL_law_2779 : decode cL_law 2779 = .ok (.if_icmp .eq 5, 3) := by decide +kernel
theorem dL_law_2782 : decode cL_law 2782 = .ok (.iconst 0, 1) := by decide +kernel
theorem dL_law_2783 : decode cL_law 2783 = .ok (.ireturn, 1) := by decide +kernel
theorem dL_law_2784 : decode cL_law 2784 = .ok (.iload 6, 2) := by decide +kernel
theorem dL_law_2786 : decode cL_law 2786 = .ok (.ifCond .ne 35, 3) := by decide +kernel
theorem dL_law_2789 : decode cL_law 2789 = .ok (.aload 4, 2) := by decide +kernel
theorem dL_law_2791 : decode cL_law 2791 = .ok (.iconst 0, 1) := by decide +kernel
theorem dL_law_2792 : decode cL_law 2792 = .ok (.daload, 1) := by decide +kernel
theorem dL_law_2793 : decode cL_law 2793 = .ok (.dload 7, 2) := by decide +kernel
theorem dL_law_2795 : decode cL_law 2795 = .ok (.dcmp .l, 1) := by decide +kernel
theorem dL_law_2796 : decode cL_law 2796 = .ok (.ifCond .eq 25, 3) := by decide +kernel
theorem dL_law_2799 : decode cL_law 2799 = .ok (.aload 4, 2) := by decide +kernel
theorem dL_law_2801 : decode cL_law 2801 = .ok (.iconst 0, 1) := by decide +kernel
theorem dL_law_2802 : decode cL_law 2802 = .ok (.daload, 1) := by decide +kernel
theorem dL_law_2803 : decode cL_law 2803 = .ok (.aload 4, 2) := by decide +kernel
theorem dL_law_2805 : decode cL_law 2805 = .ok (.iconst 0, 1) := by decide +kernel
theorem dL_law_2806 : decode cL_law 2806 = .ok (.daload, 1) := by decide +kernel
theorem dL_law_2807 : decode cL_law 2807 = .ok (.dcmp .l, 1) := by decide +kernel
theorem dL_law_2808 : decode cL_law 2808 = .ok (.ifCond .eq 11, 3) := by decide +kernel
theorem dL_law_2811 : decode cL_law 2811 = .ok (.dload 7, 2) := by decide +kernel
theorem dL_law_2813 : decode cL_law 2813 = .ok (.dload 7, 2) := by decide +kernel
theorem dL_law_2815 : decode cL_law 2815 = .ok (.dcmp .l, 1) := by decide +kernel
theorem dL_law_2816 : decode cL_law 2816 = .ok (.ifCond .ne 5, 3) := by decide +kernel
theorem dL_law_2819 : decode cL_law 2819 = .ok (.iconst 0, 1) := by decide +kernel
theorem dL_law_2820 : decode cL_law 2820 = .ok (.ireturn, 1) := by decide +kernel
theorem dL_law_2821 : decode cL_law 2821 = .ok (.goto 59, 3) := by decide +kernel
theorem dL_law_2824 : decode cL_law 2824 = .ok (.aload_n 1, 1) := by decide +kernel
theorem dL_law_2825 : decode cL_law 2825 = .ok (.invokevirtual 270, 3) := by decide +kernel
theorem dL_law_2828 : decode cL_law 2828 = .ok (.f2d, 1) := by decide +kernel
theorem dL_law_2829 : decode cL_law 2829 = .ok (.dstore 6, 2) := by decide +kernel
theorem dL_law_2831 : decode cL_law 2831 = .ok (.aload_n 2, 1) := by decide +kernel
theorem dL_law_2832 : decode cL_law 2832 = .ok (.invokevirtual 274, 3) := by decide +kernel
theorem dL_law_2835 : decode cL_law 2835 = .ok (.f2d, 1) := by decide +kernel
theorem dL_law_2836 : decode cL_law 2836 = .ok (.dstore 8, 2) := by decide +kernel
theorem dL_law_2838 : decode cL_law 2838 = .ok (.dload 6, 2) := by decide +kernel
theorem dL_law_2840 : decode cL_law 2840 = .ok (.dload 8, 2) := by decide +kernel
theorem dL_law_2842 : decode cL_law 2842 = .ok (.dcmp .l, 1) := by decide +kernel
theorem dL_law_2843 : decode cL_law 2843 = .ok (.ifCond .eq 21, 3) := by decide +kernel
theorem dL_law_2846 : decode cL_law 2846 = .ok (.dload 6, 2) := by decide +kernel
theorem dL_law_2848 : decode cL_law 2848 = .ok (.dload 6, 2) := by decide +kernel
theorem dL_law_2850 : decode cL_law 2850 = .ok (.dcmp .l, 1) := by decide +kernel
theorem dL_law_2851 : decode cL_law 2851 = .ok (.ifCond .eq 11, 3) := by decide +kernel
theorem dL_law_2854 : decode cL_law 2854 = .ok (.dload 8, 2) := by decide +kernel
theorem dL_law_2856 : decode cL_law 2856 = .ok (.dload 8, 2) := by decide +kernel
theorem dL_law_2858 : decode cL_law 2858 = .ok (.dcmp .l, 1) := by decide +kernel
theorem dL_law_2859 : decode cL_law 2859 = .ok (.ifCond .ne 5, 3) := by decide +kernel
theorem dL_law_2862 : decode cL_law 2862 = .ok (.iconst 0, 1) := by decide +kernel
theorem dL_law_2863 : decode cL_law 2863 = .ok (.ireturn, 1) := by decide +kernel
theorem dL_law_2864 : decode cL_law 2864 = .ok (.goto 16, 3) := by decide +kernel
theorem dL_law_2867 : decode cL_law 2867 = .ok (.aload_n 1, 1) := by decide +kernel
theorem dL_law_2868 : decode cL_law 2868 = .ok (.invokevirtual 275, 3) := by decide +kernel
theorem dL_law_2871 : decode cL_law 2871 = .ok (.aload_n 2, 1) := by decide +kernel
theorem dL_law_2872 : decode cL_law 2872 = .ok (.invokevirtual 278, 3) := by decide +kernel
theorem dL_law_2875 : decode cL_law 2875 = .ok (.if_icmp .eq 5, 3) := by decide +kernel
theorem dL_law_2878 : decode cL_law 2878 = .ok (.iconst 0, 1) := by decide +kernel
theorem dL_law_2879 : decode cL_law 2879 = .ok (.ireturn, 1) := by decide +kernel
theorem dL_law_2880 : decode cL_law 2880 = .ok (.iinc 5 5, 3) := by decide +kernel
theorem dL_law_2883 : decode cL_law 2883 = .ok (.goto (-2855), 3) := by decide +kernel
theorem dL_law_2886 : decode cL_law 2886 = .ok (.iconst 1, 1) := by decide +kernel
theorem dL_law_2887 : decode cL_law 2887 = .ok (.ireturn, 1) := by decide +kernel
end
section
theorem zz_last : True := trivial
end
