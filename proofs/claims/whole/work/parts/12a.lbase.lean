/-! ===== the law's circle ===== -/
theorem MdAt.lt {D : va_G} {cI cZ : ClassId} {d : Nat → Nat} {S : St} {th : Int32} {H : Heap} (h : MdAt D cI cZ d S th H) {i : Nat} (hi : i < 9) : d i < H.size := by
  obtain ⟨K, V, sz, cb, ck, ca, it, ou, h1, -⟩ := h
  match i, hi with
  | 0, _ => exact va_lt h1 (k := 0) rfl
  | 1, _ => exact va_lt h1 (k := 1) rfl
  | 2, _ => exact va_lt h1 (k := 2) rfl
  | 3, _ => exact va_lt h1 (k := 3) rfl
  | 4, _ => exact va_lt h1 (k := 4) rfl
  | 5, _ => exact va_lt h1 (k := 5) rfl
  | 6, _ => exact va_lt h1 (k := 6) rfl
  | 7, _ => exact va_lt h1 (k := 7) rfl
  | 8, _ => exact va_lt h1 (k := 8) rfl
theorem MdAt.kept {D : va_G} {cI cZ : ClassId} {d : Nat → Nat} {S : St} {th : Int32} {H H1 : Heap} (h : MdAt D cI cZ d S th H) (hq : ∀ i, i < 9 → H1[d i]? = H[d i]?) : MdAt D cI cZ d S th H1 := by
  obtain ⟨K, V, sz, cb, ck, ca, it, ou, h1, h2⟩ := h
  refine ⟨K, V, sz, cb, ck, ca, it, ou, h1.kept (fun k q hk => ?_), h2⟩
  match k, hk with
  | 0, hk => cases hk; exact hq 0 (by decide)
  | 1, hk => cases hk; exact hq 1 (by decide)
  | 2, hk => cases hk; exact hq 2 (by decide)
  | 3, hk => cases hk; exact hq 3 (by decide)
  | 4, hk => cases hk; exact hq 4 (by decide)
  | 5, hk => cases hk; exact hq 5 (by decide)
  | 6, hk => cases hk; exact hq 6 (by decide)
  | 7, hk => cases hk; exact hq 7 (by decide)
  | 8, hk => cases hk; exact hq 8 (by decide)
  | k + 9, hk => simp [mdW] at hk
def CSSW (own : String) (idx : Nat) (y : MethodName) (c : ByteArray) (n : Nat) (r : Option FieldType) (hh : List (Nat × Nat × Nat × Nat)) (k : Nat) : Prop :=
  Cond.methodLink own idx y ∈ GW ∧ Cond.static y ∈ GW ∧ Cond.initialized y.cls ∈ GW ∧ Cond.codeWith y c n r hh ∈ GW ∧ y.cls ≠ "java/lang/invoke/MethodHandle" ∧ y.cls ≠ "java/lang/invoke/VarHandle" ∧ (parseMethodDescriptor y.desc).map (fun d => d.parameters.length) = some k
theorem GW_movesW {args : Array Value} {s : State} (hG : ∀ w ∈ GW, w.before args s = true) {y : MethodName} {c : ByteArray} {n : Nat} {r : Option FieldType} {hh : List (Nat × Nat × Nat × Nat)} (h5 : Cond.codeWith y c n r hh ∈ GW) : ∀ w ∈ wsW_ y c n r hh, ∀ (a' : Array Value) (U : State), s.WarmedH U.vm → w.before a' U = true := fun w hw a' U hW => by
  have hg : w ∈ GW := (List.mem_cons.mp hw).elim (fun e => e ▸ h5) id
  exact word_at hW (good_of_word (GW_good hg)) (hG w hg)
def LwC (p : Program) (s : State) (m : MethodId) (c : Code) (b L : Nat) (xs : Nat → Int32) (D : va_G) (cI cC cZ cL cD : ClassId) (ad d ta : Nat → Nat) (qo qd : Nat) : Prop :=
  p.tables.exec = Jvm.exec ∧ c.code = code ∧ c.maxLocals = 10 ∧ s.vm.findClass RL = some m.cls ∧ (∀ w ∈ GW, w.before #[Value.ref b] s = true) ∧ va_K D vwCl [(cI, .int), (cC, .char), (cZ, .boolean), (cL, .long), (cD, .double)] s ∧ Ex s ∧ Tx ta s ∧ Zs s.heap.size s s.heap ∧ Nx s ∧ va_X b L xs s s.heap ∧ b < s.heap.size ∧ L ≤ 2560 ∧ Ap ad 36 ∧ Ap d 9 ∧ (∀ i, i < 36 → s.heap.size ≤ ad i) ∧ (∀ i, i < 9 → s.heap.size ≤ d i) ∧ s.heap.size ≤ qo ∧ s.heap.size ≤ qd ∧ (∀ i, i < 9 → ¬ Ao ad 36 (d i)) ∧ ¬ Ao ad 36 qo ∧ ¬ Ao ad 36 qd ∧ ¬ Ao d 9 qo ∧ ¬ Ao d 9 qd ∧ qo ≠ qd ∧ (∀ i, i < 36 → ¬ Ao d 9 (ad i))
def LwI (D : va_G) (cI cC cZ cL cD : ClassId) (ad d : Nat → Nat) (qo qd : Nat) (s : State) (S : St) (N : Nat) (H : Heap) (locs : List Loc) : Prop :=
  Inv S ∧ Wc D cI cC ad S N H ∧ (∃ th, MdAt D cI cZ d S th H) ∧ (∃ f, va_P D vwCl (ouW cL qo f) H) ∧ (∃ f, va_P D vwCl (ouD cD qd f) H) ∧ va_S (fun q => s.heap.size ≤ q) s.heap H locs
section LQ
variable {p : Program} {l : Launch} {e : Env} {R : Room} {s : State} {m : MethodId} {args : Array Value} {below : List Frame} {meth : Method} {c : Code} {H : Heap} {locs : List Loc} {cells slots : Nat} {Q : State → Prop}
variable {y : MethodName} {bytes cc : ByteArray} {maxL nL n idx pc : Nat} {ret : Option FieldType} {rm : Room} {own : String} {As rest st0 st1 : List Value} {ls : Array Slot} {v : Option Value} {Bp : State → Prop} {A0 A1 : Nat → Prop} {H0 : Heap} {PB : Heap → Prop} {hh : List (Nat × Nat × Nat × Nat)}
theorem k2_SW {mc ms : Nat} (hx : p.tables.exec = Jvm.exec) (hb : c.code = cc) (hml : c.maxLocals = nL) (hown : s.vm.findClass own = some m.cls) (hG : ∀ w ∈ GW, w.before args s = true) (cs : CSSW own idx y bytes maxL ret hh n) (hM : Met l y (wsW_ y bytes maxL ret hh) rm (va_Pc As Bp) (Wq v PB A1) mc ms A1) (hR : rm.cells = mc ∧ rm.slots = ms ∧ rm.frames + 1 ≤ R.frames ∧ 8 + (maxL + 11) + rm.locals ≤ R.locals) (hp : PreS s H (va_Pc As Bp) As) (hn : As.length = n) (hl : ls.size = nL) (hst : st0 = As.reverse ++ rest) (hW : (rest.map fun v => v.category).sum ≤ 8) (hdg : decode cc pc = .ok (.invokestatic idx, 3)) (hcap : cells + mc ≤ R.cells ∧ slots + ms ≤ R.slots) (h1 : v.toList ++ rest = st1) (hS : va_S A0 H0 H locs) (hA : ∀ q, A1 q → A0 q)
    (kk : ∀ (H1 : Heap) (locs1 : List Loc), PB H1 → H.size ≤ H1.size → (∀ q : Nat, q < H.size → ¬ A1 q → H1[q]? = H[q]?) → va_S A0 H0 H1 locs1 → W p l e R s m args below meth c H1 locs1 (cells + mc) (slots + ms) Q (F0 m (pc + 3) ls st1)) : W p l e R s m args below meth c H locs cells slots Q (F0 m pc ls st0) := by
  intro T hT X
  obtain ⟨g1, g2, g4, g5, g6, g7, g8⟩ := cs
  obtain ⟨v', st₀, t, T', L, h0, X', hL, e1, -, ⟨hv, hPB, hF⟩, st⟩ := vx_runSW (R := R) (own := own) (g := F0 m pc ls st0) ⟨hx, hb, hml, hown, hG⟩ hM ⟨⟨hR.1, hR.2.1, hR.2.2.1, hR.2.2.2, GW_movesW hG g5, List.mem_cons_self⟩, hG _ g5, hG _ g4, ⟨g6, g7⟩, fun sig h => by rw [h] at g8; exact (Option.some.inj g8).symm, hG _ g1, hG _ g2⟩ hp rfl hn hl hst (lv_room (pc := pc) (ls := ls) hW) hdg hcap T hT X
  cases hv
  subst h1
  obtain ⟨k1, k2, k3⟩ := k2_keep h0 e1 hS hA hL hF
  obtain ⟨t2, a1, b1⟩ := kk T'.heap (locs ++ L) (by rw [e1]; exact hPB) k1 k2 k3 T' rfl X'
  exact ⟨t2, st t2 a1, b1⟩
theorem x_sld (hx : p.tables.exec = Jvm.exec) (hb : c.code = cc) {b L : Nat} {xs : Nat → Int32} {A : Nat → Prop} {ls : Array Slot} (hX : va_X b L xs s H0) (hbl : b < H0.size) (hbA : ¬ A b) (hS : va_S A H0 H locs) {i : Nat} (hi : i < L) (hL : L < 2 ^ 31) (hdg : decode cc pc = .ok (.iaload, 1))
    (k : W p l e R s m args below meth c H locs cells slots Q (F0 m (pc + 1) ls (.int (xs i) :: rest))) : W p l e R s m args below meth c H locs cells slots Q (F0 m pc ls (.int (nI i) :: .ref b :: rest)) := va_sld hx hb hX hbl hbA hS (vp_in_nI hi hL) hdg (by rw [nI_clamp (by omega)]; exact k)
theorem x_lald0 (hx : p.tables.exec = Jvm.exec) (hb : c.code = cc) {D : va_G} {tys : List (ClassId × FieldType)} {a : Nat} {cA : ClassId} {f : Nat → Int64} {x : Int64} (hf : f 0 = x) (hK : va_K D vwCl tys s) (hP : va_P D vwCl (ouW cA a f) H) (t0 : Nat) (ht : tys[t0]? = some (cA, .long)) (hdg : decode cc pc = .ok (.laload, 1))
    (k : W p l e R s m args below meth c H locs cells slots Q (F0 m (pc + 1) ls (.long x :: rest))) : W p l e R s m args below meth c H locs cells slots Q (F0 m pc ls (.int (nI 0) :: .ref a :: rest)) := by
  subst hf
  exact va_lald hx hb hK hP 0 t0 rfl ht (vp_in_nI (n := 0) (N := 1) (by decide) (by decide)) hdg (by rw [nI_clamp (by decide)]; exact k)
theorem x_dald0 (hx : p.tables.exec = Jvm.exec) (hb : c.code = cc) {D : va_G} {tys : List (ClassId × FieldType)} {a : Nat} {cA : ClassId} {f : Nat → UInt64} {x : UInt64} (hf : f 0 = x) (hK : va_K D vwCl tys s) (hP : va_P D vwCl (ouD cA a f) H) (t0 : Nat) (ht : tys[t0]? = some (cA, .double)) (hdg : decode cc pc = .ok (.daload, 1))
    (k : W p l e R s m args below meth c H locs cells slots Q (F0 m (pc + 1) ls (.double x :: rest))) : W p l e R s m args below meth c H locs cells slots Q (F0 m pc ls (.int (nI 0) :: .ref a :: rest)) := by
  subst hf
  exact va_dald hx hb hK hP 0 t0 rfl ht (vp_in_nI (n := 0) (N := 1) (by decide) (by decide)) hdg (by rw [nI_clamp (by decide)]; exact k)
/-- what is compared with itself and is no NaN -/
theorem x_dsame (hx : p.tables.exec = Jvm.exec) (hb : c.code = cc) {x : UInt64} (hv : FP.dcmp x x = some .eq) {off : Int} {tgt : Nat} (hdg : decode cc pc = .ok (.dcmp .l, 1)) (hdg2 : decode cc (pc + 1) = .ok (.ifCond .eq off, 3)) (ht : ((pc + 1 : Nat) : Int) + off = (tgt : Int)) (k : W p l e R s m args below meth c H locs cells slots Q (F0 m tgt ls rest)) : W p l e R s m args below meth c H locs cells slots Q (F0 m pc ls (.double x :: .double x :: rest)) := by
  refine lv_dcmp hx hb hdg ?_
  rw [hv]
  exact lv_if_eq hx hb hdg2 ht (fun _ => k) (fun h => absurd rfl h)
end LQ
theorem mean_cmp {S : St} (hI : Inv S) (x : Int32) (h : (sp_mean S x).1 = 0) : FP.dcmp (sp_mean S x).2.1 (sp_mean S x).2.1 = some .eq := by
  rcases bkn_cases 4 (by decide) x with ⟨b, hb4, rfl, hbk⟩ | ⟨hbk, hno⟩
  · have e9 : sp_mean S (nI b) = (0, meanL (S.1 b), S) := by simp [sp_mean, askB, hbk]
    rw [e9]
    exact meanL_ok (hI.1 b hb4).2
  · have e9 : (sp_mean S x).1 = 1 := by simp [sp_mean, askB, hbk]
    omega
theorem sub5_lt {L j : Nat} (hL : L < 2 ^ 30) (hj : j < 2 ^ 30) : (nI L - nI 5 < nI j) ↔ (L < j + 5) := by
  rw [i_lt, nI_toInt (by omega), pk_sub_toInt hL (by decide)]
  omega
theorem csw_L_145 : CSSW RL 145 yL_rebind cL_rebind 4 (some .int) [(0, 9, 12, 13)] 3 := ⟨ml_L_145, st_L_rebind, in_L, co_L_rebind, by decide +kernel, by decide +kernel, by decide +kernel⟩
theorem csw_L_154 : CSSW RL 154 yL_put cL_put 6 (some .int) [(0, 19, 22, 19), (0, 19, 26, 13), (0, 19, 30, 21)] 5 := ⟨ml_L_154, st_L_put, in_L, co_L_put, by decide +kernel, by decide +kernel, by decide +kernel⟩
theorem csw_L_158 : CSSW RL 158 yL_putNew cL_putNew 6 (some .int) [(0, 12, 15, 19), (0, 12, 19, 13), (0, 12, 23, 21)] 5 := ⟨ml_L_158, st_L_putNew, in_L, co_L_putNew, by decide +kernel, by decide +kernel, by decide +kernel⟩
theorem csw_L_161 : CSSW RL 161 yL_add cL_add 6 (some .int) [(0, 12, 15, 19), (0, 12, 19, 13), (0, 12, 23, 21)] 5 := ⟨ml_L_161, st_L_add, in_L, co_L_add, by decide +kernel, by decide +kernel, by decide +kernel⟩
theorem csw_L_164 : CSSW RL 164 yL_halve cL_halve 5 (some .int) [(0, 17, 20, 19), (0, 17, 24, 13)] 4 := ⟨ml_L_164, st_L_halve, in_L, co_L_halve, by decide +kernel, by decide +kernel, by decide +kernel⟩
theorem csw_L_168 : CSSW RL 168 yL_addToAll cL_addToAll 5 (some .int) [(0, 10, 13, 19), (0, 10, 17, 13)] 4 := ⟨ml_L_168, st_L_addToAll, in_L, co_L_addToAll, by decide +kernel, by decide +kernel, by decide +kernel⟩
theorem csw_L_171 : CSSW RL 171 yL_replace cL_replace 6 (some .int) [(0, 19, 22, 19), (0, 19, 26, 13)] 5 := ⟨ml_L_171, st_L_replace, in_L, co_L_replace, by decide +kernel, by decide +kernel, by decide +kernel⟩
theorem csw_L_174 : CSSW RL 174 yL_remove cL_remove 5 (some .int) [(0, 10, 13, 19), (0, 10, 17, 13), (0, 10, 21, 44)] 4 := ⟨ml_L_174, st_L_remove, in_L, co_L_remove, by decide +kernel, by decide +kernel, by decide +kernel⟩
theorem csw_L_177 : CSSW RL 177 yL_removePair cL_removePair 6 (some .int) [(0, 19, 22, 19), (0, 19, 26, 13)] 5 := ⟨ml_L_177, st_L_removePair, in_L, co_L_removePair, by decide +kernel, by decide +kernel, by decide +kernel⟩
theorem csw_L_180 : CSSW RL 180 yL_fill cL_fill 7 (some .int) [(0, 14, 17, 19), (0, 14, 21, 13), (0, 14, 25, 21)] 6 := ⟨ml_L_180, st_L_fill, in_L, co_L_fill, by decide +kernel, by decide +kernel, by decide +kernel⟩
theorem csw_L_184 : CSSW RL 184 yL_pour cL_pour 5 (some .int) [(0, 10, 13, 19), (0, 10, 17, 13), (0, 10, 21, 21)] 4 := ⟨ml_L_184, st_L_pour, in_L, co_L_pour, by decide +kernel, by decide +kernel, by decide +kernel⟩
theorem csw_L_187 : CSSW RL 187 yL_copy cL_copy 5 (some .int) [(0, 10, 13, 19), (0, 10, 17, 13)] 4 := ⟨ml_L_187, st_L_copy, in_L, co_L_copy, by decide +kernel, by decide +kernel, by decide +kernel⟩
theorem csw_L_190 : CSSW RL 190 yL_clear cL_clear 4 (some .int) [(0, 9, 12, 19), (0, 9, 15, 13)] 3 := ⟨ml_L_190, st_L_clear, in_L, co_L_clear, by decide +kernel, by decide +kernel, by decide +kernel⟩
theorem csw_L_193 : CSSW RL 193 yL_offer cL_offer 4 (some .int) [(0, 16, 19, 21)] 3 := ⟨ml_L_193, st_L_offer, in_L, co_L_offer, by decide +kernel, by decide +kernel, by decide +kernel⟩
theorem csw_L_196 : CSSW RL 196 yL_poll cL_poll 3 (some .int) [(0, 8, 11, 44)] 2 := ⟨ml_L_196, st_L_poll, in_L, co_L_poll, by decide +kernel, by decide +kernel, by decide +kernel⟩
theorem csw_L_200 : CSSW RL 200 yL_toEnd cL_toEnd 4 (some .int) [(0, 9, 12, 44)] 3 := ⟨ml_L_200, st_L_toEnd, in_L, co_L_toEnd, by decide +kernel, by decide +kernel, by decide +kernel⟩
theorem csw_L_203 : CSSW RL 203 yL_open cL_open 6 (some .int) [(0, 12, 15, 19), (0, 12, 19, 13)] 5 := ⟨ml_L_203, st_L_open, in_L, co_L_open, by decide +kernel, by decide +kernel, by decide +kernel⟩
theorem csw_L_206 : CSSW RL 206 yL_hasNext cL_hasNext 4 (some .int) [(0, 16, 19, 19), (0, 16, 22, 21)] 3 := ⟨ml_L_206, st_L_hasNext, in_L, co_L_hasNext, by decide +kernel, by decide +kernel, by decide +kernel⟩
theorem csw_L_209 : CSSW RL 209 yL_next cL_next 4 (some .int) [(0, 9, 12, 19), (0, 9, 15, 21), (0, 9, 18, 44)] 3 := ⟨ml_L_209, st_L_next, in_L, co_L_next, by decide +kernel, by decide +kernel, by decide +kernel⟩
theorem csw_L_212 : CSSW RL 212 yL_removeAt cL_removeAt 4 (some .int) [(0, 9, 12, 19), (0, 9, 15, 21)] 3 := ⟨ml_L_212, st_L_removeAt, in_L, co_L_removeAt, by decide +kernel, by decide +kernel, by decide +kernel⟩
theorem csw_L_215 : CSSW RL 215 yL_setAt cL_setAt 5 (some .int) [(0, 10, 13, 19), (0, 10, 17, 13), (0, 10, 21, 21)] 4 := ⟨ml_L_215, st_L_setAt, in_L, co_L_setAt, by decide +kernel, by decide +kernel, by decide +kernel⟩
theorem csw_L_218 : CSSW RL 218 yL_bookOf cL_bookOf 4 (some .int) [(0, 9, 12, 19)] 3 := ⟨ml_L_218, st_L_bookOf, in_L, co_L_bookOf, by decide +kernel, by decide +kernel, by decide +kernel⟩
theorem csw_L_221 : CSSW RL 221 yL_size cL_size 4 (some .int) [(0, 9, 12, 19)] 3 := ⟨ml_L_221, st_L_size, in_L, co_L_size, by decide +kernel, by decide +kernel, by decide +kernel⟩
theorem csw_L_224 : CSSW RL 224 yL_hasKey cL_hasKey 5 (some .int) [(0, 17, 20, 19)] 4 := ⟨ml_L_224, st_L_hasKey, in_L, co_L_hasKey, by decide +kernel, by decide +kernel, by decide +kernel⟩
theorem csw_L_227 : CSSW RL 227 yL_hasValue cL_hasValue 5 (some .int) [(0, 17, 20, 19)] 4 := ⟨ml_L_227, st_L_hasValue, in_L, co_L_hasValue, by decide +kernel, by decide +kernel, by decide +kernel⟩
theorem csw_L_230 : CSSW RL 230 yL_get cL_get 6 (some .int) [(0, 12, 15, 19)] 5 := ⟨ml_L_230, st_L_get, in_L, co_L_get, by decide +kernel, by decide +kernel, by decide +kernel⟩
theorem csw_L_233 : CSSW RL 233 yL_keyAt cL_keyAt 5 (some .int) [(0, 10, 13, 19)] 4 := ⟨ml_L_233, st_L_keyAt, in_L, co_L_keyAt, by decide +kernel, by decide +kernel, by decide +kernel⟩
theorem csw_L_236 : CSSW RL 236 yL_valueAt cL_valueAt 5 (some .int) [(0, 10, 13, 19)] 4 := ⟨ml_L_236, st_L_valueAt, in_L, co_L_valueAt, by decide +kernel, by decide +kernel, by decide +kernel⟩
theorem csw_L_239 : CSSW RL 239 yL_placeOf cL_placeOf 5 (some .int) [(0, 10, 13, 19)] 4 := ⟨ml_L_239, st_L_placeOf, in_L, co_L_placeOf, by decide +kernel, by decide +kernel, by decide +kernel⟩
theorem csw_L_242 : CSSW RL 242 yL_areEqual cL_areEqual 5 (some .int) [(0, 17, 20, 19)] 4 := ⟨ml_L_242, st_L_areEqual, in_L, co_L_areEqual, by decide +kernel, by decide +kernel, by decide +kernel⟩
theorem csw_L_245 : CSSW RL 245 yL_areAlike cL_areAlike 5 (some .int) [(0, 17, 20, 19)] 4 := ⟨ml_L_245, st_L_areAlike, in_L, co_L_areAlike, by decide +kernel, by decide +kernel, by decide +kernel⟩
theorem csw_L_248 : CSSW RL 248 yL_hash cL_hash 4 (some .int) [(0, 9, 12, 19)] 3 := ⟨ml_L_248, st_L_hash, in_L, co_L_hash, by decide +kernel, by decide +kernel, by decide +kernel⟩
theorem csw_L_251 : CSSW RL 251 yL_sum cL_sum 4 (some .int) [(0, 8, 11, 19)] 3 := ⟨ml_L_251, st_L_sum, in_L, co_L_sum, by decide +kernel, by decide +kernel, by decide +kernel⟩
theorem csw_L_254 : CSSW RL 254 yL_write cL_write 4 (some .int) [(0, 9, 12, 19)] 3 := ⟨ml_L_254, st_L_write, in_L, co_L_write, by decide +kernel, by decide +kernel, by decide +kernel⟩
theorem csw_L_257 : CSSW RL 257 yL_outputAt cL_outputAt 4 (some .int) [(0, 9, 12, 44)] 3 := ⟨ml_L_257, st_L_outputAt, in_L, co_L_outputAt, by decide +kernel, by decide +kernel, by decide +kernel⟩
theorem csw_L_260 : CSSW RL 260 yL_isAddRefused cL_isAddRefused 5 (some .int) [(0, 17, 20, 19), (0, 17, 24, 13)] 4 := ⟨ml_L_260, st_L_isAddRefused, in_L, co_L_isAddRefused, by decide +kernel, by decide +kernel, by decide +kernel⟩
theorem csw_L_263 : CSSW RL 263 yL_isNothingRefused cL_isNothingRefused 5 (some .int) [(0, 17, 20, 19), (0, 17, 24, 13)] 4 := ⟨ml_L_263, st_L_isNothingRefused, in_L, co_L_isNothingRefused, by decide +kernel, by decide +kernel, by decide +kernel⟩
theorem csw_L_266 : CSSW RL 266 yL_mean cL_mean 4 (some .int) [(0, 8, 11, 19)] 3 := ⟨ml_L_266, st_L_mean, in_L, co_L_mean, by decide +kernel, by decide +kernel, by decide +kernel⟩
