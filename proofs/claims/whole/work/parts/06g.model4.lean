theorem up_up {α : Type} (f : Nat → α) (k : Nat) (x y : α) : va_up (va_up f k x) k y = va_up f k y := by
  funext j
  rw [up_at, up_at, up_at]
  split <;> rfl
theorem upB_id (S : St) (b : Nat) : upB S b (S.1 b) = S := by
  unfold upB
  refine Prod.ext ?_ rfl
  funext j
  show va_up S.1 b (S.1 b) j = S.1 j
  rw [up_at]
  split
  · rename_i h; rw [h]
  · rfl
theorem MdB.ad {B : Nat → Bk} {b : Nat} {v : Int32} {i : Nat} {L : Bk} {K V sz : Nat → Int32} (h : MdB (va_up B b (adA L v i)) K V sz) (hb : b < 4) (hi : i < L.length) : MdB (va_up B b (adA L v (i + 1))) K (upd V (201 * b + i) (vf L i + v)) sz := by
  have h2 := h.val hb (i := i) (by rw [up_at, if_pos rfl, adA_len]; exact hi) (vf L i + v)
  rw [up_at, if_pos rfl, up_up] at h2
  exact h2
def anB (f : Nat → Bool) : Nat → Bool
  | 0 => false
  | n + 1 => anB f n || f n
theorem anB_no {f : Nat → Bool} : ∀ {n : Nat}, (∀ j, j < n → f j = false) → anB f n = false
  | 0, _ => rfl
  | n + 1, h => by rw [anB, anB_no (fun j hj => h j (by omega)), h n (by omega)]; rfl
theorem anB_yes {f : Nat → Bool} {j : Nat} (h : f j = true) : ∀ {n : Nat}, j < n → anB f n = true
  | 0, hj => absurd hj (Nat.not_lt_zero j)
  | n + 1, hj => by
    rw [anB]
    rcases Nat.lt_or_ge j n with q | q
    · rw [anB_yes h q]; rfl
    · rw [show n = j by omega, h, Bool.or_true]
theorem hasV_an (L : Bk) (x : Int32) : hasV L x = anB (fun j => decide (vf L j = x)) L.length := by
  by_cases h : ∃ j, j < L.length ∧ vf L j = x
  · obtain ⟨j, hj, e⟩ := h
    rw [hasV_yes hj e, anB_yes (decide_eq_true e) hj]
  · rw [hasV_no (fun j hj e => h ⟨j, hj, e⟩), anB_no (fun j hj => decide_eq_false (fun e => h ⟨j, hj, e⟩))]
theorem eqB_len {L M : Bk} (h : L.length ≠ M.length) : eqB L M = false := by unfold eqB; rw [decide_eq_false h]; rfl
theorem alB_len {L M : Bk} (h : L.length ≠ M.length) : alB L M = false := by unfold alB; rw [decide_eq_false h]; rfl
theorem eqB_no {L M : Bk} {i : Nat} (hi : i < L.length) (h : hasP L M i = false) : eqB L M = false := by unfold eqB; rw [allB_no h hi, Bool.and_false]
theorem alB_no {L M : Bk} {i : Nat} (hi : i < L.length) (h : rowP L M i = false) : alB L M = false := by unfold alB; rw [allB_no h hi, Bool.and_false]
theorem eqB_yes {L M : Bk} (hl : L.length = M.length) (h : allB (hasP L M) L.length = true) : eqB L M = true := by unfold eqB; rw [decide_eq_true hl, h]; rfl
theorem alB_yes {L M : Bk} (hl : L.length = M.length) (h : allB (rowP L M) L.length = true) : alB L M = true := by unfold alB; rw [decide_eq_true hl, h]; rfl
theorem allB_s {f : Nat → Bool} {i : Nat} (h : allB f i = true) (h2 : f i = true) : allB f (i + 1) = true := by rw [allB, h, h2]; rfl
theorem rowP_k {L M : Bk} {i : Nat} (h : kf L i ≠ kf M i) : rowP L M i = false := by unfold rowP; rw [decide_eq_false h]; rfl
theorem rowP_v {L M : Bk} {i : Nat} (h : vf L i ≠ vf M i) : rowP L M i = false := by unfold rowP; rw [decide_eq_false h, Bool.and_false]
theorem rowP_y {L M : Bk} {i : Nat} (h : kf L i = kf M i) (h2 : vf L i = vf M i) : rowP L M i = true := by unfold rowP; rw [decide_eq_true h, decide_eq_true h2]; rfl
theorem clB_at (S : St) (b : Nat) (L : Bk) (but : Int32) : (clB (upB S b L) b but).1 b = L := upB_at S b L
theorem c5_puts (l : Launch) (D : va_G) (cI cZ : ClassId) (d : Nat → Nat) (S : St) (th : Int32) (b : Nat) (x y : Int32) (hb4 : b < 4) (hap : Ap d 9) (hl2 : (S.1 b).length ≤ 200) (hbd2 : S.2.1 ≤ 200) : Met l yX5_puts (ws_ yX5_puts cX5_puts 5 none) (rmN 2) (va_Pc [.ref (d 0), .int (nI (b)), .int (x), .int (y)] (pz D [(cI, .int), (cZ, .boolean)] (fun H => MdAt D cI cZ d S th H))) (Wq none (fun H => MdAt D cI cZ d (upB S b (stq (lgO b) S.2.1 (S.1 b) x y)) th H) (Ao d 9)) 0 0 (Ao d 9) := by
  cases hf : fx (S.1 b) x with
  | none => exact c5_puts_no l D cI cZ d S th b x y hb4 hap hf hl2 hbd2
  | some i => exact c5_puts_at l D cI cZ d S th b x y hb4 hap i hf
set_option maxHeartbeats 4000000 in
set_option maxRecDepth 100000 in
theorem m_hash (l : Launch) (D : va_G) (cI cZ : ClassId) (d : Nat → Nat) (S : St) (th : Int32) (x : Int32) (hI : Inv S) (hap : Ap d 9) : Met l yX5_hash (ws_ yX5_hash cX5_hash 4 (some .int)) (rmN 4) (va_Pc [.ref (d 0), .int x] (pz D [(cI, .int), (cZ, .boolean)] (fun H => MdAt D cI cZ d S th H))) (Wq (some (.int (sp_hash S x).2.1)) (fun H => MdAt D cI cZ d (sp_hash S x).2.2 (nI (sp_hash S x).1) H) (Ao d 9)) 0 0 (Ao d 9) := by
  have hbd2 : S.2.1 ≤ 40 := hI.2.2.2.1
  have hCC : ∀ cu, cu < 3 → ∀ y, S.2.2.1 cu = some y → y.1 < 4 := fun cu hcu y hy => by have h := hI.2.2.2.2.1 cu hcu; rw [hy] at h; exact h.1
  rcases bkn_cases 4 (by decide) x with ⟨b, hb4, rfl, hbk⟩ | ⟨hbk, hno⟩
  · have hN := hI.1 b hb4
    have e9 : sp_hash S (nI (b)) = (0, hsL (S.1 b) (S.1 b).length, S) := by simp [sp_hash, askB, hbk]
    rw [e9]
    refine m_start (by decide) (Nat.le_of_ble_eq_true rfl) ?_
    intro p e s m below meth c hx hb hr hG hown hlocks hml hB ls hl
    have hl : lv_has ls 4 [(0, .ref (d 0)), (1, .int (nI (b)))] := hl
    obtain ⟨hB0, hK⟩ := hB
    have hS : va_S (Ao d 9) s.heap s.heap [] := va_S.rf
    refine lv_iload_n hx hb dX5_hash_0 rfl (lv_at hl 1 rfl) ?_
    refine k1_S hx hb hml hown hG cs_X5_68 (by have h := c5_isBook l D (nI (b)); rw [rch_in (by omega) (by decide)] at h; exact h) (by decide) (pzS (hK.sub (tys' := []) [] rfl) trivial) rfl hl.1 rfl (Nat.le_of_ble_eq_true rfl) dX5_hash_1 ⟨Nat.zero_le _, Nat.zero_le _⟩ rfl ?_
    refine x_ifb_ne (tgt := 13) hx hb dX5_hash_4 (by decide) (fun zc1 => ?_) (fun zc1 => False.elim (by first | exact absurd zc1 (by decide) | omega | (simp_all; done)))
    obtain ⟨K, V, sz, cb, ck, ca, it, ou, hP, hMB, hMC, hMO⟩ := id hB0
    have hP : va_P D vwCl [(d 0, .inr (5, [.ref (d 1), .ref (d 2), .ref (d 3), .int (nI (S.2.1)), .int (th), .ref (d 4), .ref (d 5), .ref (d 6), .ref (d 7), .ref (d 8), .int (nI (S.2.2.2.length))])), (d 1, .inl (cI, (804, .inl K))), (d 2, .inl (cI, (804, .inl V))), (d 3, .inl (cI, (4, .inl sz))), (d 4, .inl (cI, (3, .inl cb))), (d 5, .inl (cI, (3, .inl ck))), (d 6, .inl (cI, (3, .inl ca))), (d 7, .inl (cZ, (3, .inl it))), (d 8, .inl (cI, (6000, .inl ou)))] s.heap := hP
    have hD : va_D (Ao d 9) [(d 0, .inr (5, [.ref (d 1), .ref (d 2), .ref (d 3), .int (nI (S.2.1)), .int (th), .ref (d 4), .ref (d 5), .ref (d 6), .ref (d 7), .ref (d 8), .int (nI (S.2.2.2.length))])), (d 1, .inl (cI, (804, .inl K))), (d 2, .inl (cI, (804, .inl V))), (d 3, .inl (cI, (4, .inl sz))), (d 4, .inl (cI, (3, .inl cb))), (d 5, .inl (cI, (3, .inl ck))), (d 6, .inl (cI, (3, .inl ca))), (d 7, .inl (cZ, (3, .inl it))), (d 8, .inl (cI, (6000, .inl ou)))] := hap.D9
    refine lv_iconst (v := nI 0) hx hb dX5_hash_13 (by decide) ?_
    refine lv_istore_n (lv' := [(2, .int (nI (0))), (0, .ref (d 0)), (1, .int (nI (b)))]) hx hb dX5_hash_14 rfl hl (by decide) rfl (fun ls hl => ?_)
    refine lv_iconst (v := nI 0) hx hb dX5_hash_15 (by decide) ?_
    refine lv_istore_n (lv' := [(3, .int (nI (0))), (2, .int (nI (0))), (0, .ref (d 0)), (1, .int (nI (b)))]) hx hb dX5_hash_16 rfl hl (by decide) rfl (fun ls hl => ?_)
    suffices KK : ∀ (n i : Nat), (S.1 b).length < i + n → i ≤ (S.1 b).length → ∀ ls : Array Slot, lv_has ls 4 [(3, .int (nI (i))), (2, .int (hsL (S.1 b) i)), (0, .ref (d 0)), (1, .int (nI (b)))] → W p l e (rmN 4) s m [.ref (d 0), .int (nI (b))].toArray below meth c s.heap [] 0 0 (MQ below (Wq (some (.int (hsL (S.1 b) (S.1 b).length))) (fun H => MdAt D cI cZ d S (nI 0) H) (Ao d 9)) [.ref (d 0), .int (nI (b))].toArray s 0 0 (Ao d 9)) (F0 m 17 ls []) from KK ((S.1 b).length + 1) 0 (by omega) (by omega) ls (lv_sub hl [0, 1, 2, 3] rfl)
    clear hl
    intro n
    induction n with
    | zero => intro i h1 h2; omega
    | succ n ih =>
      intro i h1 h2 ls hl
      refine lv_iload_n hx hb dX5_hash_17 rfl (lv_at hl 0 rfl) ?_
      refine lv_aload_n hx hb dX5_hash_18 rfl (lv_at hl 2 rfl) ?_
      refine gf_X5_16 hx hb hG hown hK hP 0 rfl rfl dX5_hash_19 ?_
      refine lv_iload_n hx hb dX5_hash_22 rfl (lv_at hl 3 rfl) ?_
      refine x_iald hx hb hK hP 3 0 rfl rfl (by omega) (by decide) dX5_hash_23 ?_
      rw [(hMB (b) (by omega)).1]
      refine x_cmp_ge (tgt := 61) hx hb dX5_hash_24 (by decide) (by omega) (by omega) (fun c1 => ?_) (fun c1 => ?_)
      · have ei : i = (S.1 b).length := by omega
        refine lv_aload_n hx hb dX5_hash_61 rfl (lv_at hl 2 rfl) ?_
        refine lv_iload_n hx hb dX5_hash_62 rfl (lv_at hl 1 rfl) ?_
        refine k2_V hx hb hml hown hG cs_X5_65 (c5_told l D cI cZ d S th (hsL (S.1 b) i) hap) (by decide) (pzV hK rfl hB0.rc hB0) rfl hl.1 rfl (Nat.le_of_ble_eq_true rfl) dX5_hash_63 ⟨Nat.zero_le _, Nat.zero_le _⟩ rfl hS (fun q h => h) (fun H locs hB0 hz hk hS => ?_)
        exact w_i (PB := (fun H => MdAt D cI cZ d S (nI 0) H)) (by rw [ei]) hB0 hS hx hb hr hlocks dX5_hash_66
      · refine lv_iload_n hx hb dX5_hash_27 rfl (lv_at hl 1 rfl) ?_
        refine lv_aload_n hx hb dX5_hash_28 rfl (lv_at hl 2 rfl) ?_
        refine gf_X5_7 hx hb hG hown hK hP 0 rfl rfl dX5_hash_29 ?_
        refine lv_sipush (v := nI 201) hx hb dX5_hash_32 (by decide) ?_
        refine lv_iload_n hx hb dX5_hash_35 rfl (lv_at hl 3 rfl) ?_
        refine x_imul (v := nI (201 * b)) hx hb dX5_hash_36 (pk_mul _ _) ?_
        refine lv_iload_n hx hb dX5_hash_37 rfl (lv_at hl 0 rfl) ?_
        refine x_iadd (v := nI ((201 * b) + i)) hx hb dX5_hash_38 (nI_add _ _) ?_
        refine x_iald hx hb hK hP 1 0 rfl rfl (by omega) (by decide) dX5_hash_39 ?_
        rw [show K ((201 * b) + i) = kf (S.1 b) i from ((hMB b (by omega)).2.2 i (by omega)).1]
        refine lv_aload_n hx hb dX5_hash_40 rfl (lv_at hl 2 rfl) ?_
        refine gf_X5_13 hx hb hG hown hK hP 0 rfl rfl dX5_hash_41 ?_
        refine lv_sipush (v := nI 201) hx hb dX5_hash_44 (by decide) ?_
        refine lv_iload_n hx hb dX5_hash_47 rfl (lv_at hl 3 rfl) ?_
        refine x_imul (v := nI (201 * b)) hx hb dX5_hash_48 (pk_mul _ _) ?_
        refine lv_iload_n hx hb dX5_hash_49 rfl (lv_at hl 0 rfl) ?_
        refine x_iadd (v := nI ((201 * b) + i)) hx hb dX5_hash_50 (nI_add _ _) ?_
        refine x_iald hx hb hK hP 2 0 rfl rfl (by omega) (by decide) dX5_hash_51 ?_
        rw [show V ((201 * b) + i) = vf (S.1 b) i from ((hMB b (by omega)).2.2 i (by omega)).2]
        refine x_ixor (v := (kf (S.1 b) i) ^^^ (vf (S.1 b) i)) hx hb dX5_hash_52 rfl ?_
        refine x_iadd (v := (hsL (S.1 b) i) + ((kf (S.1 b) i) ^^^ (vf (S.1 b) i))) hx hb dX5_hash_53 rfl ?_
        refine lv_istore_n (lv' := [(2, .int ((hsL (S.1 b) i) + ((kf (S.1 b) i) ^^^ (vf (S.1 b) i)))), (3, .int (nI (i))), (0, .ref (d 0)), (1, .int (nI (b)))]) hx hb dX5_hash_54 rfl hl (by decide) rfl (fun ls hl => ?_)
        refine x_iinc (k := 1) (lv' := [(3, .int (nI (i + 1))), (2, .int ((hsL (S.1 b) i) + ((kf (S.1 b) i) ^^^ (vf (S.1 b) i)))), (0, .ref (d 0)), (1, .int (nI (b)))]) hx hb dX5_hash_55 hl rfl (by decide) rfl (fun ls hl => ?_)
        refine lv_goto (tgt := 17) hx hb dX5_hash_58 (by decide) ?_
        exact ih (i + 1) (by omega) (by omega) ls (lv_sub hl [0, 1, 2, 3] rfl)
  · skip
    have e9 : sp_hash S x = (1, 0, S) := by simp [sp_hash, askB, hbk]
    rw [e9]
    refine m_start (by decide) (Nat.le_of_ble_eq_true rfl) ?_
    intro p e s m below meth c hx hb hr hG hown hlocks hml hB ls hl
    have hl : lv_has ls 4 [(0, .ref (d 0)), (1, .int (x))] := hl
    obtain ⟨hB0, hK⟩ := hB
    have hS : va_S (Ao d 9) s.heap s.heap [] := va_S.rf
    refine lv_iload_n hx hb dX5_hash_0 rfl (lv_at hl 1 rfl) ?_
    refine k1_S hx hb hml hown hG cs_X5_68 (by have h := c5_isBook l D x; rw [hno] at h; exact h) (by decide) (pzS (hK.sub (tys' := []) [] rfl) trivial) rfl hl.1 rfl (Nat.le_of_ble_eq_true rfl) dX5_hash_1 ⟨Nat.zero_le _, Nat.zero_le _⟩ rfl ?_
    refine x_ifb_ne (tgt := 13) hx hb dX5_hash_4 (by decide) (fun zc1 => False.elim (by first | exact absurd zc1 (by decide) | omega | (simp_all; done))) (fun zc1 => ?_)
    refine lv_aload_n hx hb dX5_hash_7 rfl (lv_at hl 0 rfl) ?_
    refine lv_iconst (v := nI 1) hx hb dX5_hash_8 (by decide) ?_
    refine k2_V hx hb hml hown hG cs_X5_58 (c5_refuse l D cI cZ d S th 1 hap) (by decide) (pzV hK rfl hB0.rc hB0) rfl hl.1 rfl (Nat.le_of_ble_eq_true rfl) dX5_hash_9 ⟨Nat.zero_le _, Nat.zero_le _⟩ rfl hS (fun q h => h) (fun H locs hB0 hz hk hS => ?_)
    exact w_i (PB := (fun H => MdAt D cI cZ d S (nI 1) H)) rfl hB0 hS hx hb hr hlocks dX5_hash_12
set_option maxHeartbeats 4000000 in
set_option maxRecDepth 100000 in
theorem m_hasValue (l : Launch) (D : va_G) (cI cZ : ClassId) (d : Nat → Nat) (S : St) (th : Int32) (x v : Int32) (hI : Inv S) (hap : Ap d 9) : Met l yX5_hasValue (ws_ yX5_hasValue cX5_hasValue 5 (some .boolean)) (rmN 4) (va_Pc [.ref (d 0), .int x, .int v] (pz D [(cI, .int), (cZ, .boolean)] (fun H => MdAt D cI cZ d S th H))) (Wq (some (.int (bI (sp_hasValue S x v).2.1))) (fun H => MdAt D cI cZ d (sp_hasValue S x v).2.2 (nI (sp_hasValue S x v).1) H) (Ao d 9)) 0 0 (Ao d 9) := by
  have hbd2 : S.2.1 ≤ 40 := hI.2.2.2.1
  have hCC : ∀ cu, cu < 3 → ∀ y, S.2.2.1 cu = some y → y.1 < 4 := fun cu hcu y hy => by have h := hI.2.2.2.2.1 cu hcu; rw [hy] at h; exact h.1
  rcases bkn_cases 4 (by decide) x with ⟨b, hb4, rfl, hbk⟩ | ⟨hbk, hno⟩
  · have hN := hI.1 b hb4
    have e9 : sp_hasValue S (nI (b)) v = (0, hasV (S.1 b) v, S) := by simp [sp_hasValue, askB, hbk]
    rw [e9]
    refine m_start (by decide) (Nat.le_of_ble_eq_true rfl) ?_
    intro p e s m below meth c hx hb hr hG hown hlocks hml hB ls hl
    have hl : lv_has ls 5 [(0, .ref (d 0)), (1, .int (nI (b))), (2, .int (v))] := hl
    obtain ⟨hB0, hK⟩ := hB
    have hS : va_S (Ao d 9) s.heap s.heap [] := va_S.rf
    refine lv_iload_n hx hb dX5_hasValue_0 rfl (lv_at hl 1 rfl) ?_
    refine k1_S hx hb hml hown hG cs_X5_68 (by have h := c5_isBook l D (nI (b)); rw [rch_in (by omega) (by decide)] at h; exact h) (by decide) (pzS (hK.sub (tys' := []) [] rfl) trivial) rfl hl.1 rfl (Nat.le_of_ble_eq_true rfl) dX5_hasValue_1 ⟨Nat.zero_le _, Nat.zero_le _⟩ rfl ?_
    refine x_ifb_ne (tgt := 13) hx hb dX5_hasValue_4 (by decide) (fun zc1 => ?_) (fun zc1 => False.elim (by first | exact absurd zc1 (by decide) | omega | (simp_all; done)))
    obtain ⟨K, V, sz, cb, ck, ca, it, ou, hP, hMB, hMC, hMO⟩ := id hB0
    have hP : va_P D vwCl [(d 0, .inr (5, [.ref (d 1), .ref (d 2), .ref (d 3), .int (nI (S.2.1)), .int (th), .ref (d 4), .ref (d 5), .ref (d 6), .ref (d 7), .ref (d 8), .int (nI (S.2.2.2.length))])), (d 1, .inl (cI, (804, .inl K))), (d 2, .inl (cI, (804, .inl V))), (d 3, .inl (cI, (4, .inl sz))), (d 4, .inl (cI, (3, .inl cb))), (d 5, .inl (cI, (3, .inl ck))), (d 6, .inl (cI, (3, .inl ca))), (d 7, .inl (cZ, (3, .inl it))), (d 8, .inl (cI, (6000, .inl ou)))] s.heap := hP
    have hD : va_D (Ao d 9) [(d 0, .inr (5, [.ref (d 1), .ref (d 2), .ref (d 3), .int (nI (S.2.1)), .int (th), .ref (d 4), .ref (d 5), .ref (d 6), .ref (d 7), .ref (d 8), .int (nI (S.2.2.2.length))])), (d 1, .inl (cI, (804, .inl K))), (d 2, .inl (cI, (804, .inl V))), (d 3, .inl (cI, (4, .inl sz))), (d 4, .inl (cI, (3, .inl cb))), (d 5, .inl (cI, (3, .inl ck))), (d 6, .inl (cI, (3, .inl ca))), (d 7, .inl (cZ, (3, .inl it))), (d 8, .inl (cI, (6000, .inl ou)))] := hap.D9
    refine lv_iconst (v := nI 0) hx hb dX5_hasValue_13 (by decide) ?_
    refine lv_istore_n (lv' := [(3, .int (nI (0))), (0, .ref (d 0)), (1, .int (nI (b))), (2, .int (v))]) hx hb dX5_hasValue_14 rfl hl (by decide) rfl (fun ls hl => ?_)
    refine lv_iconst (v := nI 0) hx hb dX5_hasValue_15 (by decide) ?_
    refine lv_istore (lv' := [(4, .int (nI (0))), (3, .int (nI (0))), (0, .ref (d 0)), (1, .int (nI (b))), (2, .int (v))]) hx hb dX5_hasValue_16 hl (by decide) rfl (fun ls hl => ?_)
    suffices KK : ∀ (n i : Nat), (S.1 b).length < i + n → i ≤ (S.1 b).length → ∀ ls : Array Slot, lv_has ls 5 [(4, .int (nI (i))), (3, .int (bI ((anB (fun j => decide (vf (S.1 b) j = v)) i)))), (0, .ref (d 0)), (1, .int (nI (b))), (2, .int (v))] → W p l e (rmN 4) s m [.ref (d 0), .int (nI (b)), .int (v)].toArray below meth c s.heap [] 0 0 (MQ below (Wq (some (.int (bI (hasV (S.1 b) v)))) (fun H => MdAt D cI cZ d S (nI 0) H) (Ao d 9)) [.ref (d 0), .int (nI (b)), .int (v)].toArray s 0 0 (Ao d 9)) (F0 m 18 ls []) from KK ((S.1 b).length + 1) 0 (by omega) (by omega) ls (lv_sub hl [0, 1, 2, 3, 4] rfl)
    clear hl
    intro n
    induction n with
    | zero => intro i h1 h2; omega
    | succ n ih =>
      intro i h1 h2 ls hl
      refine lv_iload hx hb dX5_hasValue_18 (lv_at hl 0 rfl) ?_
      refine lv_aload_n hx hb dX5_hasValue_20 rfl (lv_at hl 2 rfl) ?_
      refine gf_X5_16 hx hb hG hown hK hP 0 rfl rfl dX5_hasValue_21 ?_
      refine lv_iload_n hx hb dX5_hasValue_24 rfl (lv_at hl 3 rfl) ?_
      refine x_iald hx hb hK hP 3 0 rfl rfl (by omega) (by decide) dX5_hasValue_25 ?_
      rw [(hMB (b) (by omega)).1]
      refine x_cmp_ge (tgt := 62) hx hb dX5_hasValue_26 (by decide) (by omega) (by omega) (fun c1 => ?_) (fun c1 => ?_)
      · have ei : i = (S.1 b).length := by omega
        refine lv_aload_n hx hb dX5_hasValue_62 rfl (lv_at hl 2 rfl) ?_
        refine lv_iload_n hx hb dX5_hasValue_63 rfl (lv_at hl 1 rfl) ?_
        refine k2_V hx hb hml hown hG cs_X5_82 (c5_says l D cI cZ d S th (anB (fun j => decide (vf (S.1 b) j = v)) i) hap) (by decide) (pzV hK rfl hB0.rc hB0) rfl hl.1 rfl (Nat.le_of_ble_eq_true rfl) dX5_hasValue_64 ⟨Nat.zero_le _, Nat.zero_le _⟩ rfl hS (fun q h => h) (fun H locs hB0 hz hk hS => ?_)
        exact w_z (PB := (fun H => MdAt D cI cZ d S (nI 0) H)) (by rw [hasV_an, ei]) hB0 hS hx hb hr hlocks dX5_hasValue_67
      · refine lv_iload_n hx hb dX5_hasValue_29 rfl (lv_at hl 1 rfl) ?_
        refine x_ifb_ne (tgt := 50) hx hb dX5_hasValue_30 (by decide) (fun c2 => ?_) (fun c2 => ?_)
        · refine lv_iconst (v := nI 1) hx hb dX5_hasValue_50 (by decide) ?_
          refine lv_goto (tgt := 55) hx hb dX5_hasValue_51 (by decide) ?_
          refine lv_istore_n (lv' := [(3, .int (nI (1))), (4, .int (nI (i))), (0, .ref (d 0)), (1, .int (nI (b))), (2, .int (v))]) hx hb dX5_hasValue_55 rfl hl (by decide) rfl (fun ls hl => ?_)
          refine x_iinc (k := 1) (lv' := [(4, .int (nI (i + 1))), (3, .int (nI (1))), (0, .ref (d 0)), (1, .int (nI (b))), (2, .int (v))]) hx hb dX5_hasValue_56 hl rfl (by decide) rfl (fun ls hl => ?_)
          refine lv_goto (tgt := 18) hx hb dX5_hasValue_59 (by decide) ?_
          exact ih (i + 1) (by omega) (by omega) ls (by rw [show anB (fun j => decide (vf (S.1 b) j = v)) (i + 1) = true from by rw [anB, c2]; rfl]; exact (lv_sub hl [0, 1, 2, 3, 4] rfl))
        · refine lv_aload_n hx hb dX5_hasValue_33 rfl (lv_at hl 2 rfl) ?_
          refine gf_X5_13 hx hb hG hown hK hP 0 rfl rfl dX5_hasValue_34 ?_
          refine lv_sipush (v := nI 201) hx hb dX5_hasValue_37 (by decide) ?_
          refine lv_iload_n hx hb dX5_hasValue_40 rfl (lv_at hl 3 rfl) ?_
          refine x_imul (v := nI (201 * b)) hx hb dX5_hasValue_41 (pk_mul _ _) ?_
          refine lv_iload hx hb dX5_hasValue_42 (lv_at hl 0 rfl) ?_
          refine x_iadd (v := nI ((201 * b) + i)) hx hb dX5_hasValue_44 (nI_add _ _) ?_
          refine x_iald hx hb hK hP 2 0 rfl rfl (by omega) (by decide) dX5_hasValue_45 ?_
          rw [show V ((201 * b) + i) = vf (S.1 b) i from ((hMB b (by omega)).2.2 i (by omega)).2]
          refine lv_iload_n hx hb dX5_hasValue_46 rfl (lv_at hl 4 rfl) ?_
          refine lv_icmp_ne (tgt := 54) hx hb dX5_hasValue_47 (by decide) (fun c3 => ?_) (fun c3 => ?_)
          · refine lv_iconst (v := nI 0) hx hb dX5_hasValue_54 (by decide) ?_
            refine lv_istore_n (lv' := [(3, .int (nI (0))), (4, .int (nI (i))), (0, .ref (d 0)), (1, .int (nI (b))), (2, .int (v))]) hx hb dX5_hasValue_55 rfl hl (by decide) rfl (fun ls hl => ?_)
            refine x_iinc (k := 1) (lv' := [(4, .int (nI (i + 1))), (3, .int (nI (0))), (0, .ref (d 0)), (1, .int (nI (b))), (2, .int (v))]) hx hb dX5_hasValue_56 hl rfl (by decide) rfl (fun ls hl => ?_)
            refine lv_goto (tgt := 18) hx hb dX5_hasValue_59 (by decide) ?_
            exact ih (i + 1) (by omega) (by omega) ls (by rw [show anB (fun j => decide (vf (S.1 b) j = v)) (i + 1) = false from by rw [anB, c2, decide_eq_false c3]; rfl]; exact (lv_sub hl [0, 1, 2, 3, 4] rfl))
          · refine lv_iconst (v := nI 1) hx hb dX5_hasValue_50 (by decide) ?_
            refine lv_goto (tgt := 55) hx hb dX5_hasValue_51 (by decide) ?_
            refine lv_istore_n (lv' := [(3, .int (nI (1))), (4, .int (nI (i))), (0, .ref (d 0)), (1, .int (nI (b))), (2, .int (v))]) hx hb dX5_hasValue_55 rfl hl (by decide) rfl (fun ls hl => ?_)
            refine x_iinc (k := 1) (lv' := [(4, .int (nI (i + 1))), (3, .int (nI (1))), (0, .ref (d 0)), (1, .int (nI (b))), (2, .int (v))]) hx hb dX5_hasValue_56 hl rfl (by decide) rfl (fun ls hl => ?_)
            refine lv_goto (tgt := 18) hx hb dX5_hasValue_59 (by decide) ?_
            exact ih (i + 1) (by omega) (by omega) ls (by rw [show anB (fun j => decide (vf (S.1 b) j = v)) (i + 1) = true from by rw [anB, decide_eq_true (by first | exact c3 | exact Decidable.of_not_not c3), Bool.or_true]]; exact (lv_sub hl [0, 1, 2, 3, 4] rfl))
  · skip
    have e9 : sp_hasValue S x v = (1, false, S) := by simp [sp_hasValue, askB, hbk]
    rw [e9]
    refine m_start (by decide) (Nat.le_of_ble_eq_true rfl) ?_
    intro p e s m below meth c hx hb hr hG hown hlocks hml hB ls hl
    have hl : lv_has ls 5 [(0, .ref (d 0)), (1, .int (x)), (2, .int (v))] := hl
    obtain ⟨hB0, hK⟩ := hB
    have hS : va_S (Ao d 9) s.heap s.heap [] := va_S.rf
    refine lv_iload_n hx hb dX5_hasValue_0 rfl (lv_at hl 1 rfl) ?_
    refine k1_S hx hb hml hown hG cs_X5_68 (by have h := c5_isBook l D x; rw [hno] at h; exact h) (by decide) (pzS (hK.sub (tys' := []) [] rfl) trivial) rfl hl.1 rfl (Nat.le_of_ble_eq_true rfl) dX5_hasValue_1 ⟨Nat.zero_le _, Nat.zero_le _⟩ rfl ?_
    refine x_ifb_ne (tgt := 13) hx hb dX5_hasValue_4 (by decide) (fun zc1 => False.elim (by first | exact absurd zc1 (by decide) | omega | (simp_all; done))) (fun zc1 => ?_)
    refine lv_aload_n hx hb dX5_hasValue_7 rfl (lv_at hl 0 rfl) ?_
    refine lv_iconst (v := nI 1) hx hb dX5_hasValue_8 (by decide) ?_
    refine k2_V hx hb hml hown hG cs_X5_72 (c5_denies l D cI cZ d S th 1 hap) (by decide) (pzV hK rfl hB0.rc hB0) rfl hl.1 rfl (Nat.le_of_ble_eq_true rfl) dX5_hasValue_9 ⟨Nat.zero_le _, Nat.zero_le _⟩ rfl hS (fun q h => h) (fun H locs hB0 hz hk hS => ?_)
    exact w_z (PB := (fun H => MdAt D cI cZ d S (nI 1) H)) rfl hB0 hS hx hb hr hlocks dX5_hasValue_12
set_option maxHeartbeats 4000000 in
set_option maxRecDepth 100000 in
theorem m_areEqual (l : Launch) (D : va_G) (cI cZ : ClassId) (d : Nat → Nat) (S : St) (th : Int32) (x y : Int32) (hI : Inv S) (hap : Ap d 9) : Met l yX5_areEqual (ws_ yX5_areEqual cX5_areEqual 5 (some .boolean)) (rmN 5) (va_Pc [.ref (d 0), .int x, .int y] (pz D [(cI, .int), (cZ, .boolean)] (fun H => MdAt D cI cZ d S th H))) (Wq (some (.int (bI (sp_areEqual S x y).2.1))) (fun H => MdAt D cI cZ d (sp_areEqual S x y).2.2 (nI (sp_areEqual S x y).1) H) (Ao d 9)) 0 0 (Ao d 9) := by
  have hbd2 : S.2.1 ≤ 40 := hI.2.2.2.1
  have hCC : ∀ cu, cu < 3 → ∀ y, S.2.2.1 cu = some y → y.1 < 4 := fun cu hcu y hy => by have h := hI.2.2.2.2.1 cu hcu; rw [hy] at h; exact h.1
  rcases bkn_cases 4 (by decide) x with ⟨b, hb4, rfl, hbk⟩ | ⟨hbk, hno⟩
  · rcases bkn_cases 4 (by decide) y with ⟨o, ho4, rfl, hbo⟩ | ⟨hbo, hno⟩
    · have hN := hI.1 b hb4
      have hNo := hI.1 o ho4
      by_cases hlen : (S.1 b).length = (S.1 o).length
      · skip
        have e9 : sp_areEqual S (nI (b)) (nI (o)) = (0, eqB (S.1 b) (S.1 o), S) := by simp [sp_areEqual, ask2, hbk, hbo]
        rw [e9]
        refine m_start (by decide) (Nat.le_of_ble_eq_true rfl) ?_
        intro p e s m below meth c hx hb hr hG hown hlocks hml hB ls hl
        have hl : lv_has ls 5 [(0, .ref (d 0)), (1, .int (nI (b))), (2, .int (nI (o)))] := hl
        obtain ⟨hB0, hK⟩ := hB
        have hS : va_S (Ao d 9) s.heap s.heap [] := va_S.rf
        refine lv_iload_n hx hb dX5_areEqual_0 rfl (lv_at hl 1 rfl) ?_
        refine k1_S hx hb hml hown hG cs_X5_68 (by have h := c5_isBook l D (nI (b)); rw [rch_in (by omega) (by decide)] at h; exact h) (by decide) (pzS (hK.sub (tys' := []) [] rfl) trivial) rfl hl.1 rfl (Nat.le_of_ble_eq_true rfl) dX5_areEqual_1 ⟨Nat.zero_le _, Nat.zero_le _⟩ rfl ?_
        refine x_ifb_eq (tgt := 14) hx hb dX5_areEqual_4 (by decide) (fun zc1 => False.elim (by first | exact absurd zc1 (by decide) | omega | (simp_all; done))) (fun zc1 => ?_)
        refine lv_iload_n hx hb dX5_areEqual_7 rfl (lv_at hl 2 rfl) ?_
        refine k1_S hx hb hml hown hG cs_X5_68 (by have h := c5_isBook l D (nI (o)); rw [rch_in (by omega) (by decide)] at h; exact h) (by decide) (pzS (hK.sub (tys' := []) [] rfl) trivial) rfl hl.1 rfl (Nat.le_of_ble_eq_true rfl) dX5_areEqual_8 ⟨Nat.zero_le _, Nat.zero_le _⟩ rfl ?_
        refine x_ifb_ne (tgt := 20) hx hb dX5_areEqual_11 (by decide) (fun zc2 => ?_) (fun zc2 => False.elim (by first | exact absurd zc2 (by decide) | omega | (simp_all; done)))
        obtain ⟨K, V, sz, cb, ck, ca, it, ou, hP, hMB, hMC, hMO⟩ := id hB0
        have hP : va_P D vwCl [(d 0, .inr (5, [.ref (d 1), .ref (d 2), .ref (d 3), .int (nI (S.2.1)), .int (th), .ref (d 4), .ref (d 5), .ref (d 6), .ref (d 7), .ref (d 8), .int (nI (S.2.2.2.length))])), (d 1, .inl (cI, (804, .inl K))), (d 2, .inl (cI, (804, .inl V))), (d 3, .inl (cI, (4, .inl sz))), (d 4, .inl (cI, (3, .inl cb))), (d 5, .inl (cI, (3, .inl ck))), (d 6, .inl (cI, (3, .inl ca))), (d 7, .inl (cZ, (3, .inl it))), (d 8, .inl (cI, (6000, .inl ou)))] s.heap := hP
        have hD : va_D (Ao d 9) [(d 0, .inr (5, [.ref (d 1), .ref (d 2), .ref (d 3), .int (nI (S.2.1)), .int (th), .ref (d 4), .ref (d 5), .ref (d 6), .ref (d 7), .ref (d 8), .int (nI (S.2.2.2.length))])), (d 1, .inl (cI, (804, .inl K))), (d 2, .inl (cI, (804, .inl V))), (d 3, .inl (cI, (4, .inl sz))), (d 4, .inl (cI, (3, .inl cb))), (d 5, .inl (cI, (3, .inl ck))), (d 6, .inl (cI, (3, .inl ca))), (d 7, .inl (cZ, (3, .inl it))), (d 8, .inl (cI, (6000, .inl ou)))] := hap.D9
        refine lv_aload_n hx hb dX5_areEqual_20 rfl (lv_at hl 0 rfl) ?_
        refine gf_X5_16 hx hb hG hown hK hP 0 rfl rfl dX5_areEqual_21 ?_
        refine lv_iload_n hx hb dX5_areEqual_24 rfl (lv_at hl 1 rfl) ?_
        refine x_iald hx hb hK hP 3 0 rfl rfl (by omega) (by decide) dX5_areEqual_25 ?_
        rw [(hMB (b) (by omega)).1]
        refine lv_aload_n hx hb dX5_areEqual_26 rfl (lv_at hl 0 rfl) ?_
        refine gf_X5_16 hx hb hG hown hK hP 0 rfl rfl dX5_areEqual_27 ?_
        refine lv_iload_n hx hb dX5_areEqual_30 rfl (lv_at hl 2 rfl) ?_
        refine x_iald hx hb hK hP 3 0 rfl rfl (by omega) (by decide) dX5_areEqual_31 ?_
        rw [(hMB (o) (by omega)).1]
        refine x_cmp_ne (tgt := 39) hx hb dX5_areEqual_32 (by decide) (by omega) (by omega) (fun zc3 => False.elim (by first | omega | contradiction | exact absurd zc3 (m1_ne _ (by omega)) | exact absurd zc3 (by decide) | exact absurd (Eq.symm zc3) (m1_ne _ (by omega)) | (simp_all; done))) (fun zc3 => ?_)
        refine lv_iconst (v := nI 1) hx hb dX5_areEqual_35 (by decide) ?_
        refine lv_goto (tgt := 40) hx hb dX5_areEqual_36 (by decide) ?_
        refine lv_istore_n (lv' := [(3, .int (nI (1))), (0, .ref (d 0)), (1, .int (nI (b))), (2, .int (nI (o)))]) hx hb dX5_areEqual_40 rfl hl (by decide) rfl (fun ls hl => ?_)
        refine lv_iconst (v := nI 0) hx hb dX5_areEqual_41 (by decide) ?_
        refine lv_istore (lv' := [(4, .int (nI (0))), (3, .int (nI (1))), (0, .ref (d 0)), (1, .int (nI (b))), (2, .int (nI (o)))]) hx hb dX5_areEqual_42 hl (by decide) rfl (fun ls hl => ?_)
        suffices KK : ∀ (n i : Nat), (S.1 b).length < i + n → i ≤ (S.1 b).length → allB (hasP (S.1 b) (S.1 o)) i = true → ∀ ls : Array Slot, lv_has ls 5 [(4, .int (nI (i))), (3, .int (nI (1))), (0, .ref (d 0)), (1, .int (nI (b))), (2, .int (nI (o)))] → W p l e (rmN 5) s m [.ref (d 0), .int (nI (b)), .int (nI (o))].toArray below meth c s.heap [] 0 0 (MQ below (Wq (some (.int (bI (eqB (S.1 b) (S.1 o))))) (fun H => MdAt D cI cZ d S (nI 0) H) (Ao d 9)) [.ref (d 0), .int (nI (b)), .int (nI (o))].toArray s 0 0 (Ao d 9)) (F0 m 44 ls []) from KK ((S.1 b).length + 1) 0 (by omega) (by omega) rfl ls (lv_sub hl [0, 1, 2, 3, 4] rfl)
        clear hl
        intro n
        induction n with
        | zero => intro i h1 h2; omega
        | succ n ih =>
          intro i h1 h2 hall ls hl
          refine lv_iload hx hb dX5_areEqual_44 (lv_at hl 0 rfl) ?_
          refine lv_aload_n hx hb dX5_areEqual_46 rfl (lv_at hl 2 rfl) ?_
          refine gf_X5_16 hx hb hG hown hK hP 0 rfl rfl dX5_areEqual_47 ?_
          refine lv_iload_n hx hb dX5_areEqual_50 rfl (lv_at hl 3 rfl) ?_
          refine x_iald hx hb hK hP 3 0 rfl rfl (by omega) (by decide) dX5_areEqual_51 ?_
          rw [(hMB (b) (by omega)).1]
          refine x_cmp_ge (tgt := 97) hx hb dX5_areEqual_52 (by decide) (by omega) (by omega) (fun c1 => ?_) (fun c1 => ?_)
          · have ei : i = (S.1 b).length := by omega
            refine lv_aload_n hx hb dX5_areEqual_97 rfl (lv_at hl 2 rfl) ?_
            refine lv_iload_n hx hb dX5_areEqual_98 rfl (lv_at hl 1 rfl) ?_
            refine k2_V hx hb hml hown hG cs_X5_82 (c5_says l D cI cZ d S th true hap) (by decide) (pzV hK rfl hB0.rc hB0) rfl hl.1 rfl (Nat.le_of_ble_eq_true rfl) dX5_areEqual_99 ⟨Nat.zero_le _, Nat.zero_le _⟩ rfl hS (fun q h => h) (fun H locs hB0 hz hk hS => ?_)
            exact w_z (PB := (fun H => MdAt D cI cZ d S (nI 0) H)) (by rw [eqB_yes hlen (by rw [← ei]; exact hall)]) hB0 hS hx hb hr hlocks dX5_areEqual_102
          · cases hf : fx (S.1 o) (kf (S.1 b) i) with
            | none =>
              refine lv_iload_n hx hb dX5_areEqual_55 rfl (lv_at hl 1 rfl) ?_
              refine x_if_eq (tgt := 97) hx hb dX5_areEqual_56 (by decide) (by omega) (fun zc4 => False.elim (by first | exact absurd zc4 (by decide) | omega | (simp_all; done))) (fun zc4 => ?_)
              refine lv_aload_n hx hb dX5_areEqual_59 rfl (lv_at hl 2 rfl) ?_
              refine lv_iload_n hx hb dX5_areEqual_60 rfl (lv_at hl 4 rfl) ?_
              refine lv_aload_n hx hb dX5_areEqual_61 rfl (lv_at hl 2 rfl) ?_
              refine gf_X5_7 hx hb hG hown hK hP 0 rfl rfl dX5_areEqual_62 ?_
              refine lv_sipush (v := nI 201) hx hb dX5_areEqual_65 (by decide) ?_
              refine lv_iload_n hx hb dX5_areEqual_68 rfl (lv_at hl 3 rfl) ?_
              refine x_imul (v := nI (201 * b)) hx hb dX5_areEqual_69 (pk_mul _ _) ?_
              refine lv_iload hx hb dX5_areEqual_70 (lv_at hl 0 rfl) ?_
              refine x_iadd (v := nI ((201 * b) + i)) hx hb dX5_areEqual_72 (nI_add _ _) ?_
              refine x_iald hx hb hK hP 1 0 rfl rfl (by omega) (by decide) dX5_areEqual_73 ?_
              rw [show K ((201 * b) + i) = kf (S.1 b) i from ((hMB b (by omega)).2.2 i (by omega)).1]
              refine lv_aload_n hx hb dX5_areEqual_74 rfl (lv_at hl 2 rfl) ?_
              refine gf_X5_13 hx hb hG hown hK hP 0 rfl rfl dX5_areEqual_75 ?_
              refine lv_sipush (v := nI 201) hx hb dX5_areEqual_78 (by decide) ?_
              refine lv_iload_n hx hb dX5_areEqual_81 rfl (lv_at hl 3 rfl) ?_
              refine x_imul (v := nI (201 * b)) hx hb dX5_areEqual_82 (pk_mul _ _) ?_
              refine lv_iload hx hb dX5_areEqual_83 (lv_at hl 0 rfl) ?_
              refine x_iadd (v := nI ((201 * b) + i)) hx hb dX5_areEqual_85 (nI_add _ _) ?_
              refine x_iald hx hb hK hP 2 0 rfl rfl (by omega) (by decide) dX5_areEqual_86 ?_
              rw [show V ((201 * b) + i) = vf (S.1 b) i from ((hMB b (by omega)).2.2 i (by omega)).2]
              refine k1_V hx hb hml hown hG cs_X5_104 (c5_hasPair_no l D cI cZ d S th o (kf (S.1 b) i) (vf (S.1 b) i) (by omega) hf) (by decide) (pzV hK rfl hB0.rc hB0) rfl hl.1 rfl (Nat.le_of_ble_eq_true rfl) dX5_areEqual_87 ⟨Nat.zero_le _, Nat.zero_le _⟩ rfl ?_
              refine lv_istore_n (lv' := [(3, .int (bI (false))), (4, .int (nI (i))), (0, .ref (d 0)), (1, .int (nI (b))), (2, .int (nI (o)))]) hx hb dX5_areEqual_90 rfl hl (by decide) rfl (fun ls hl => ?_)
              refine x_iinc (k := 1) (lv' := [(4, .int (nI (i + 1))), (3, .int (bI (false))), (0, .ref (d 0)), (1, .int (nI (b))), (2, .int (nI (o)))]) hx hb dX5_areEqual_91 hl rfl (by decide) rfl (fun ls hl => ?_)
              refine lv_goto (tgt := 44) hx hb dX5_areEqual_94 (by decide) ?_
              refine lv_iload hx hb dX5_areEqual_44 (lv_at hl 0 rfl) ?_
              refine lv_aload_n hx hb dX5_areEqual_46 rfl (lv_at hl 2 rfl) ?_
              refine gf_X5_16 hx hb hG hown hK hP 0 rfl rfl dX5_areEqual_47 ?_
              refine lv_iload_n hx hb dX5_areEqual_50 rfl (lv_at hl 3 rfl) ?_
              refine x_iald hx hb hK hP 3 0 rfl rfl (by omega) (by decide) dX5_areEqual_51 ?_
              rw [(hMB (b) (by omega)).1]
              refine x_cmp_ge (tgt := 97) hx hb dX5_areEqual_52 (by decide) (by omega) (by omega) (fun c9 => ?_) (fun c9 => ?_)
              · refine lv_aload_n hx hb dX5_areEqual_97 rfl (lv_at hl 2 rfl) ?_
                refine lv_iload_n hx hb dX5_areEqual_98 rfl (lv_at hl 1 rfl) ?_
                refine k2_V hx hb hml hown hG cs_X5_82 (c5_says l D cI cZ d S th false hap) (by decide) (pzV hK rfl hB0.rc hB0) rfl hl.1 rfl (Nat.le_of_ble_eq_true rfl) dX5_areEqual_99 ⟨Nat.zero_le _, Nat.zero_le _⟩ rfl hS (fun q h => h) (fun H locs hB0 hz hk hS => ?_)
                exact w_z (PB := (fun H => MdAt D cI cZ d S (nI 0) H)) (by rw [eqB_no (i := i) (by omega) (hasP_no hf)]) hB0 hS hx hb hr hlocks dX5_areEqual_102
              · refine lv_iload_n hx hb dX5_areEqual_55 rfl (lv_at hl 1 rfl) ?_
                refine x_ifb_eq (tgt := 97) hx hb dX5_areEqual_56 (by decide) (fun zc5 => ?_) (fun zc5 => False.elim (by first | exact absurd zc5 (by decide) | omega | (simp_all; done)))
                refine lv_aload_n hx hb dX5_areEqual_97 rfl (lv_at hl 2 rfl) ?_
                refine lv_iload_n hx hb dX5_areEqual_98 rfl (lv_at hl 1 rfl) ?_
                refine k2_V hx hb hml hown hG cs_X5_82 (c5_says l D cI cZ d S th false hap) (by decide) (pzV hK rfl hB0.rc hB0) rfl hl.1 rfl (Nat.le_of_ble_eq_true rfl) dX5_areEqual_99 ⟨Nat.zero_le _, Nat.zero_le _⟩ rfl hS (fun q h => h) (fun H locs hB0 hz hk hS => ?_)
                exact w_z (PB := (fun H => MdAt D cI cZ d S (nI 0) H)) (by rw [eqB_no (i := i) (by omega) (hasP_no hf)]) hB0 hS hx hb hr hlocks dX5_areEqual_102
            | some j =>
              by_cases hv : vf (S.1 o) j = vf (S.1 b) i
              · skip
                refine lv_iload_n hx hb dX5_areEqual_55 rfl (lv_at hl 1 rfl) ?_
                refine x_if_eq (tgt := 97) hx hb dX5_areEqual_56 (by decide) (by omega) (fun zc6 => False.elim (by first | exact absurd zc6 (by decide) | omega | (simp_all; done))) (fun zc6 => ?_)
                refine lv_aload_n hx hb dX5_areEqual_59 rfl (lv_at hl 2 rfl) ?_
                refine lv_iload_n hx hb dX5_areEqual_60 rfl (lv_at hl 4 rfl) ?_
                refine lv_aload_n hx hb dX5_areEqual_61 rfl (lv_at hl 2 rfl) ?_
                refine gf_X5_7 hx hb hG hown hK hP 0 rfl rfl dX5_areEqual_62 ?_
                refine lv_sipush (v := nI 201) hx hb dX5_areEqual_65 (by decide) ?_
                refine lv_iload_n hx hb dX5_areEqual_68 rfl (lv_at hl 3 rfl) ?_
                refine x_imul (v := nI (201 * b)) hx hb dX5_areEqual_69 (pk_mul _ _) ?_
                refine lv_iload hx hb dX5_areEqual_70 (lv_at hl 0 rfl) ?_
                refine x_iadd (v := nI ((201 * b) + i)) hx hb dX5_areEqual_72 (nI_add _ _) ?_
                refine x_iald hx hb hK hP 1 0 rfl rfl (by omega) (by decide) dX5_areEqual_73 ?_
                rw [show K ((201 * b) + i) = kf (S.1 b) i from ((hMB b (by omega)).2.2 i (by omega)).1]
                refine lv_aload_n hx hb dX5_areEqual_74 rfl (lv_at hl 2 rfl) ?_
                refine gf_X5_13 hx hb hG hown hK hP 0 rfl rfl dX5_areEqual_75 ?_
                refine lv_sipush (v := nI 201) hx hb dX5_areEqual_78 (by decide) ?_
                refine lv_iload_n hx hb dX5_areEqual_81 rfl (lv_at hl 3 rfl) ?_
                refine x_imul (v := nI (201 * b)) hx hb dX5_areEqual_82 (pk_mul _ _) ?_
                refine lv_iload hx hb dX5_areEqual_83 (lv_at hl 0 rfl) ?_
                refine x_iadd (v := nI ((201 * b) + i)) hx hb dX5_areEqual_85 (nI_add _ _) ?_
                refine x_iald hx hb hK hP 2 0 rfl rfl (by omega) (by decide) dX5_areEqual_86 ?_
                rw [show V ((201 * b) + i) = vf (S.1 b) i from ((hMB b (by omega)).2.2 i (by omega)).2]
                refine k1_V hx hb hml hown hG cs_X5_104 (by have h := c5_hasPair_at l D cI cZ d S th o (kf (S.1 b) i) (vf (S.1 b) i) j (by omega) hf; rw [decide_eq_true hv] at h; exact h) (by decide) (pzV hK rfl hB0.rc hB0) rfl hl.1 rfl (Nat.le_of_ble_eq_true rfl) dX5_areEqual_87 ⟨Nat.zero_le _, Nat.zero_le _⟩ rfl ?_
                refine lv_istore_n (lv' := [(3, .int (bI (true))), (4, .int (nI (i))), (0, .ref (d 0)), (1, .int (nI (b))), (2, .int (nI (o)))]) hx hb dX5_areEqual_90 rfl hl (by decide) rfl (fun ls hl => ?_)
                refine x_iinc (k := 1) (lv' := [(4, .int (nI (i + 1))), (3, .int (bI (true))), (0, .ref (d 0)), (1, .int (nI (b))), (2, .int (nI (o)))]) hx hb dX5_areEqual_91 hl rfl (by decide) rfl (fun ls hl => ?_)
                refine lv_goto (tgt := 44) hx hb dX5_areEqual_94 (by decide) ?_
                exact ih (i + 1) (by omega) (by omega) (allB_s hall (by rw [hasP_at hf, decide_eq_true hv])) ls (lv_sub hl [0, 1, 2, 3, 4] rfl)
              · skip
                refine lv_iload_n hx hb dX5_areEqual_55 rfl (lv_at hl 1 rfl) ?_
                refine x_if_eq (tgt := 97) hx hb dX5_areEqual_56 (by decide) (by omega) (fun zc7 => False.elim (by first | exact absurd zc7 (by decide) | omega | (simp_all; done))) (fun zc7 => ?_)
                refine lv_aload_n hx hb dX5_areEqual_59 rfl (lv_at hl 2 rfl) ?_
                refine lv_iload_n hx hb dX5_areEqual_60 rfl (lv_at hl 4 rfl) ?_
                refine lv_aload_n hx hb dX5_areEqual_61 rfl (lv_at hl 2 rfl) ?_
                refine gf_X5_7 hx hb hG hown hK hP 0 rfl rfl dX5_areEqual_62 ?_
                refine lv_sipush (v := nI 201) hx hb dX5_areEqual_65 (by decide) ?_
                refine lv_iload_n hx hb dX5_areEqual_68 rfl (lv_at hl 3 rfl) ?_
                refine x_imul (v := nI (201 * b)) hx hb dX5_areEqual_69 (pk_mul _ _) ?_
                refine lv_iload hx hb dX5_areEqual_70 (lv_at hl 0 rfl) ?_
                refine x_iadd (v := nI ((201 * b) + i)) hx hb dX5_areEqual_72 (nI_add _ _) ?_
                refine x_iald hx hb hK hP 1 0 rfl rfl (by omega) (by decide) dX5_areEqual_73 ?_
                rw [show K ((201 * b) + i) = kf (S.1 b) i from ((hMB b (by omega)).2.2 i (by omega)).1]
                refine lv_aload_n hx hb dX5_areEqual_74 rfl (lv_at hl 2 rfl) ?_
                refine gf_X5_13 hx hb hG hown hK hP 0 rfl rfl dX5_areEqual_75 ?_
                refine lv_sipush (v := nI 201) hx hb dX5_areEqual_78 (by decide) ?_
                refine lv_iload_n hx hb dX5_areEqual_81 rfl (lv_at hl 3 rfl) ?_
                refine x_imul (v := nI (201 * b)) hx hb dX5_areEqual_82 (pk_mul _ _) ?_
                refine lv_iload hx hb dX5_areEqual_83 (lv_at hl 0 rfl) ?_
                refine x_iadd (v := nI ((201 * b) + i)) hx hb dX5_areEqual_85 (nI_add _ _) ?_
                refine x_iald hx hb hK hP 2 0 rfl rfl (by omega) (by decide) dX5_areEqual_86 ?_
                rw [show V ((201 * b) + i) = vf (S.1 b) i from ((hMB b (by omega)).2.2 i (by omega)).2]
                refine k1_V hx hb hml hown hG cs_X5_104 (by have h := c5_hasPair_at l D cI cZ d S th o (kf (S.1 b) i) (vf (S.1 b) i) j (by omega) hf; rw [decide_eq_false hv] at h; exact h) (by decide) (pzV hK rfl hB0.rc hB0) rfl hl.1 rfl (Nat.le_of_ble_eq_true rfl) dX5_areEqual_87 ⟨Nat.zero_le _, Nat.zero_le _⟩ rfl ?_
                refine lv_istore_n (lv' := [(3, .int (bI (false))), (4, .int (nI (i))), (0, .ref (d 0)), (1, .int (nI (b))), (2, .int (nI (o)))]) hx hb dX5_areEqual_90 rfl hl (by decide) rfl (fun ls hl => ?_)
                refine x_iinc (k := 1) (lv' := [(4, .int (nI (i + 1))), (3, .int (bI (false))), (0, .ref (d 0)), (1, .int (nI (b))), (2, .int (nI (o)))]) hx hb dX5_areEqual_91 hl rfl (by decide) rfl (fun ls hl => ?_)
                refine lv_goto (tgt := 44) hx hb dX5_areEqual_94 (by decide) ?_
                refine lv_iload hx hb dX5_areEqual_44 (lv_at hl 0 rfl) ?_
                refine lv_aload_n hx hb dX5_areEqual_46 rfl (lv_at hl 2 rfl) ?_
                refine gf_X5_16 hx hb hG hown hK hP 0 rfl rfl dX5_areEqual_47 ?_
                refine lv_iload_n hx hb dX5_areEqual_50 rfl (lv_at hl 3 rfl) ?_
                refine x_iald hx hb hK hP 3 0 rfl rfl (by omega) (by decide) dX5_areEqual_51 ?_
                rw [(hMB (b) (by omega)).1]
                refine x_cmp_ge (tgt := 97) hx hb dX5_areEqual_52 (by decide) (by omega) (by omega) (fun c9 => ?_) (fun c9 => ?_)
                · refine lv_aload_n hx hb dX5_areEqual_97 rfl (lv_at hl 2 rfl) ?_
                  refine lv_iload_n hx hb dX5_areEqual_98 rfl (lv_at hl 1 rfl) ?_
                  refine k2_V hx hb hml hown hG cs_X5_82 (c5_says l D cI cZ d S th false hap) (by decide) (pzV hK rfl hB0.rc hB0) rfl hl.1 rfl (Nat.le_of_ble_eq_true rfl) dX5_areEqual_99 ⟨Nat.zero_le _, Nat.zero_le _⟩ rfl hS (fun q h => h) (fun H locs hB0 hz hk hS => ?_)
                  exact w_z (PB := (fun H => MdAt D cI cZ d S (nI 0) H)) (by rw [eqB_no (i := i) (by omega) (by rw [hasP_at hf, decide_eq_false hv])]) hB0 hS hx hb hr hlocks dX5_areEqual_102
                · refine lv_iload_n hx hb dX5_areEqual_55 rfl (lv_at hl 1 rfl) ?_
                  refine x_ifb_eq (tgt := 97) hx hb dX5_areEqual_56 (by decide) (fun zc8 => ?_) (fun zc8 => False.elim (by first | exact absurd zc8 (by decide) | omega | (simp_all; done)))
                  refine lv_aload_n hx hb dX5_areEqual_97 rfl (lv_at hl 2 rfl) ?_
                  refine lv_iload_n hx hb dX5_areEqual_98 rfl (lv_at hl 1 rfl) ?_
                  refine k2_V hx hb hml hown hG cs_X5_82 (c5_says l D cI cZ d S th false hap) (by decide) (pzV hK rfl hB0.rc hB0) rfl hl.1 rfl (Nat.le_of_ble_eq_true rfl) dX5_areEqual_99 ⟨Nat.zero_le _, Nat.zero_le _⟩ rfl hS (fun q h => h) (fun H locs hB0 hz hk hS => ?_)
                  exact w_z (PB := (fun H => MdAt D cI cZ d S (nI 0) H)) (by rw [eqB_no (i := i) (by omega) (by rw [hasP_at hf, decide_eq_false hv])]) hB0 hS hx hb hr hlocks dX5_areEqual_102
      · skip
        have e9 : sp_areEqual S (nI (b)) (nI (o)) = (0, eqB (S.1 b) (S.1 o), S) := by simp [sp_areEqual, ask2, hbk, hbo]
        rw [e9]
        refine m_start (by decide) (Nat.le_of_ble_eq_true rfl) ?_
        intro p e s m below meth c hx hb hr hG hown hlocks hml hB ls hl
        have hl : lv_has ls 5 [(0, .ref (d 0)), (1, .int (nI (b))), (2, .int (nI (o)))] := hl
        obtain ⟨hB0, hK⟩ := hB
        have hS : va_S (Ao d 9) s.heap s.heap [] := va_S.rf
        refine lv_iload_n hx hb dX5_areEqual_0 rfl (lv_at hl 1 rfl) ?_
        refine k1_S hx hb hml hown hG cs_X5_68 (by have h := c5_isBook l D (nI (b)); rw [rch_in (by omega) (by decide)] at h; exact h) (by decide) (pzS (hK.sub (tys' := []) [] rfl) trivial) rfl hl.1 rfl (Nat.le_of_ble_eq_true rfl) dX5_areEqual_1 ⟨Nat.zero_le _, Nat.zero_le _⟩ rfl ?_
        refine x_ifb_eq (tgt := 14) hx hb dX5_areEqual_4 (by decide) (fun zc1 => False.elim (by first | exact absurd zc1 (by decide) | omega | (simp_all; done))) (fun zc1 => ?_)
        refine lv_iload_n hx hb dX5_areEqual_7 rfl (lv_at hl 2 rfl) ?_
        refine k1_S hx hb hml hown hG cs_X5_68 (by have h := c5_isBook l D (nI (o)); rw [rch_in (by omega) (by decide)] at h; exact h) (by decide) (pzS (hK.sub (tys' := []) [] rfl) trivial) rfl hl.1 rfl (Nat.le_of_ble_eq_true rfl) dX5_areEqual_8 ⟨Nat.zero_le _, Nat.zero_le _⟩ rfl ?_
        refine x_ifb_ne (tgt := 20) hx hb dX5_areEqual_11 (by decide) (fun zc2 => ?_) (fun zc2 => False.elim (by first | exact absurd zc2 (by decide) | omega | (simp_all; done)))
        refine lv_aload_n hx hb dX5_areEqual_20 rfl (lv_at hl 0 rfl) ?_
        obtain ⟨K, V, sz, cb, ck, ca, it, ou, hP, hMB, hMC, hMO⟩ := id hB0
        have hP : va_P D vwCl [(d 0, .inr (5, [.ref (d 1), .ref (d 2), .ref (d 3), .int (nI (S.2.1)), .int (th), .ref (d 4), .ref (d 5), .ref (d 6), .ref (d 7), .ref (d 8), .int (nI (S.2.2.2.length))])), (d 1, .inl (cI, (804, .inl K))), (d 2, .inl (cI, (804, .inl V))), (d 3, .inl (cI, (4, .inl sz))), (d 4, .inl (cI, (3, .inl cb))), (d 5, .inl (cI, (3, .inl ck))), (d 6, .inl (cI, (3, .inl ca))), (d 7, .inl (cZ, (3, .inl it))), (d 8, .inl (cI, (6000, .inl ou)))] s.heap := hP
        have hD : va_D (Ao d 9) [(d 0, .inr (5, [.ref (d 1), .ref (d 2), .ref (d 3), .int (nI (S.2.1)), .int (th), .ref (d 4), .ref (d 5), .ref (d 6), .ref (d 7), .ref (d 8), .int (nI (S.2.2.2.length))])), (d 1, .inl (cI, (804, .inl K))), (d 2, .inl (cI, (804, .inl V))), (d 3, .inl (cI, (4, .inl sz))), (d 4, .inl (cI, (3, .inl cb))), (d 5, .inl (cI, (3, .inl ck))), (d 6, .inl (cI, (3, .inl ca))), (d 7, .inl (cZ, (3, .inl it))), (d 8, .inl (cI, (6000, .inl ou)))] := hap.D9
        refine gf_X5_16 hx hb hG hown hK hP 0 rfl rfl dX5_areEqual_21 ?_
        refine lv_iload_n hx hb dX5_areEqual_24 rfl (lv_at hl 1 rfl) ?_
        refine x_iald hx hb hK hP 3 0 rfl rfl (by omega) (by decide) dX5_areEqual_25 ?_
        rw [(hMB (b) (by omega)).1]
        refine lv_aload_n hx hb dX5_areEqual_26 rfl (lv_at hl 0 rfl) ?_
        refine gf_X5_16 hx hb hG hown hK hP 0 rfl rfl dX5_areEqual_27 ?_
        refine lv_iload_n hx hb dX5_areEqual_30 rfl (lv_at hl 2 rfl) ?_
        refine x_iald hx hb hK hP 3 0 rfl rfl (by omega) (by decide) dX5_areEqual_31 ?_
        rw [(hMB (o) (by omega)).1]
        refine x_cmp_ne (tgt := 39) hx hb dX5_areEqual_32 (by decide) (by omega) (by omega) (fun zc3 => ?_) (fun zc3 => False.elim (by first | omega | contradiction | exact absurd zc3 (m1_ne _ (by omega)) | exact absurd zc3 (by decide) | exact absurd (Eq.symm zc3) (m1_ne _ (by omega)) | (simp_all; done)))
        refine lv_iconst (v := nI 0) hx hb dX5_areEqual_39 (by decide) ?_
        refine lv_istore_n (lv' := [(3, .int (nI (0))), (0, .ref (d 0)), (1, .int (nI (b))), (2, .int (nI (o)))]) hx hb dX5_areEqual_40 rfl hl (by decide) rfl (fun ls hl => ?_)
        refine lv_iconst (v := nI 0) hx hb dX5_areEqual_41 (by decide) ?_
        refine lv_istore (lv' := [(4, .int (nI (0))), (3, .int (nI (0))), (0, .ref (d 0)), (1, .int (nI (b))), (2, .int (nI (o)))]) hx hb dX5_areEqual_42 hl (by decide) rfl (fun ls hl => ?_)
        refine lv_iload hx hb dX5_areEqual_44 (lv_at hl 0 rfl) ?_
        refine lv_aload_n hx hb dX5_areEqual_46 rfl (lv_at hl 2 rfl) ?_
        refine gf_X5_16 hx hb hG hown hK hP 0 rfl rfl dX5_areEqual_47 ?_
        refine lv_iload_n hx hb dX5_areEqual_50 rfl (lv_at hl 3 rfl) ?_
        refine x_iald hx hb hK hP 3 0 rfl rfl (by omega) (by decide) dX5_areEqual_51 ?_
        rw [(hMB (b) (by omega)).1]
        refine x_cmp_ge (tgt := 97) hx hb dX5_areEqual_52 (by decide) (by omega) (by omega) (fun c9 => ?_) (fun c9 => ?_)
        · refine lv_aload_n hx hb dX5_areEqual_97 rfl (lv_at hl 2 rfl) ?_
          refine lv_iload_n hx hb dX5_areEqual_98 rfl (lv_at hl 1 rfl) ?_
          refine k2_V hx hb hml hown hG cs_X5_82 (c5_says l D cI cZ d S th false hap) (by decide) (pzV hK rfl hB0.rc hB0) rfl hl.1 rfl (Nat.le_of_ble_eq_true rfl) dX5_areEqual_99 ⟨Nat.zero_le _, Nat.zero_le _⟩ rfl hS (fun q h => h) (fun H locs hB0 hz hk hS => ?_)
          exact w_z (PB := (fun H => MdAt D cI cZ d S (nI 0) H)) (by rw [eqB_len hlen]) hB0 hS hx hb hr hlocks dX5_areEqual_102
        · refine lv_iload_n hx hb dX5_areEqual_55 rfl (lv_at hl 1 rfl) ?_
          refine x_if_eq (tgt := 97) hx hb dX5_areEqual_56 (by decide) (by omega) (fun zc4 => ?_) (fun zc4 => False.elim (by first | exact absurd zc4 (by decide) | omega | (simp_all; done)))
          refine lv_aload_n hx hb dX5_areEqual_97 rfl (lv_at hl 2 rfl) ?_
          refine lv_iload_n hx hb dX5_areEqual_98 rfl (lv_at hl 1 rfl) ?_
          refine k2_V hx hb hml hown hG cs_X5_82 (c5_says l D cI cZ d S th false hap) (by decide) (pzV hK rfl hB0.rc hB0) rfl hl.1 rfl (Nat.le_of_ble_eq_true rfl) dX5_areEqual_99 ⟨Nat.zero_le _, Nat.zero_le _⟩ rfl hS (fun q h => h) (fun H locs hB0 hz hk hS => ?_)
          exact w_z (PB := (fun H => MdAt D cI cZ d S (nI 0) H)) (by rw [eqB_len hlen]) hB0 hS hx hb hr hlocks dX5_areEqual_102
    · skip
      have e9 : sp_areEqual S (nI (b)) y = (1, false, S) := by simp [sp_areEqual, ask2, hbk, hbo]
      rw [e9]
      refine m_start (by decide) (Nat.le_of_ble_eq_true rfl) ?_
      intro p e s m below meth c hx hb hr hG hown hlocks hml hB ls hl
      have hl : lv_has ls 5 [(0, .ref (d 0)), (1, .int (nI (b))), (2, .int (y))] := hl
      obtain ⟨hB0, hK⟩ := hB
      have hS : va_S (Ao d 9) s.heap s.heap [] := va_S.rf
      refine lv_iload_n hx hb dX5_areEqual_0 rfl (lv_at hl 1 rfl) ?_
      refine k1_S hx hb hml hown hG cs_X5_68 (by have h := c5_isBook l D (nI (b)); rw [rch_in (by omega) (by decide)] at h; exact h) (by decide) (pzS (hK.sub (tys' := []) [] rfl) trivial) rfl hl.1 rfl (Nat.le_of_ble_eq_true rfl) dX5_areEqual_1 ⟨Nat.zero_le _, Nat.zero_le _⟩ rfl ?_
      refine x_ifb_eq (tgt := 14) hx hb dX5_areEqual_4 (by decide) (fun zc1 => False.elim (by first | exact absurd zc1 (by decide) | omega | (simp_all; done))) (fun zc1 => ?_)
      refine lv_iload_n hx hb dX5_areEqual_7 rfl (lv_at hl 2 rfl) ?_
      refine k1_S hx hb hml hown hG cs_X5_68 (by have h := c5_isBook l D y; rw [hno] at h; exact h) (by decide) (pzS (hK.sub (tys' := []) [] rfl) trivial) rfl hl.1 rfl (Nat.le_of_ble_eq_true rfl) dX5_areEqual_8 ⟨Nat.zero_le _, Nat.zero_le _⟩ rfl ?_
      refine x_ifb_ne (tgt := 20) hx hb dX5_areEqual_11 (by decide) (fun zc2 => False.elim (by first | exact absurd zc2 (by decide) | omega | (simp_all; done))) (fun zc2 => ?_)
      refine lv_aload_n hx hb dX5_areEqual_14 rfl (lv_at hl 0 rfl) ?_
      refine lv_iconst (v := nI 1) hx hb dX5_areEqual_15 (by decide) ?_
      refine k2_V hx hb hml hown hG cs_X5_72 (c5_denies l D cI cZ d S th 1 hap) (by decide) (pzV hK rfl hB0.rc hB0) rfl hl.1 rfl (Nat.le_of_ble_eq_true rfl) dX5_areEqual_16 ⟨Nat.zero_le _, Nat.zero_le _⟩ rfl hS (fun q h => h) (fun H locs hB0 hz hk hS => ?_)
      exact w_z (PB := (fun H => MdAt D cI cZ d S (nI 1) H)) rfl hB0 hS hx hb hr hlocks dX5_areEqual_19
  · skip
    have e9 : sp_areEqual S x y = (1, false, S) := by simp [sp_areEqual, ask2, hbk]
    rw [e9]
    refine m_start (by decide) (Nat.le_of_ble_eq_true rfl) ?_
    intro p e s m below meth c hx hb hr hG hown hlocks hml hB ls hl
    have hl : lv_has ls 5 [(0, .ref (d 0)), (1, .int (x)), (2, .int (y))] := hl
    obtain ⟨hB0, hK⟩ := hB
    have hS : va_S (Ao d 9) s.heap s.heap [] := va_S.rf
    refine lv_iload_n hx hb dX5_areEqual_0 rfl (lv_at hl 1 rfl) ?_
    refine k1_S hx hb hml hown hG cs_X5_68 (by have h := c5_isBook l D x; rw [hno] at h; exact h) (by decide) (pzS (hK.sub (tys' := []) [] rfl) trivial) rfl hl.1 rfl (Nat.le_of_ble_eq_true rfl) dX5_areEqual_1 ⟨Nat.zero_le _, Nat.zero_le _⟩ rfl ?_
    refine x_ifb_eq (tgt := 14) hx hb dX5_areEqual_4 (by decide) (fun zc1 => ?_) (fun zc1 => False.elim (by first | exact absurd zc1 (by decide) | omega | (simp_all; done)))
    refine lv_aload_n hx hb dX5_areEqual_14 rfl (lv_at hl 0 rfl) ?_
    refine lv_iconst (v := nI 1) hx hb dX5_areEqual_15 (by decide) ?_
    refine k2_V hx hb hml hown hG cs_X5_72 (c5_denies l D cI cZ d S th 1 hap) (by decide) (pzV hK rfl hB0.rc hB0) rfl hl.1 rfl (Nat.le_of_ble_eq_true rfl) dX5_areEqual_16 ⟨Nat.zero_le _, Nat.zero_le _⟩ rfl hS (fun q h => h) (fun H locs hB0 hz hk hS => ?_)
    exact w_z (PB := (fun H => MdAt D cI cZ d S (nI 1) H)) rfl hB0 hS hx hb hr hlocks dX5_areEqual_19
set_option maxHeartbeats 4000000 in
set_option maxRecDepth 100000 in
theorem m_areAlike (l : Launch) (D : va_G) (cI cZ : ClassId) (d : Nat → Nat) (S : St) (th : Int32) (x y : Int32) (hI : Inv S) (hap : Ap d 9) : Met l yX5_areAlike (ws_ yX5_areAlike cX5_areAlike 5 (some .boolean)) (rmN 5) (va_Pc [.ref (d 0), .int x, .int y] (pz D [(cI, .int), (cZ, .boolean)] (fun H => MdAt D cI cZ d S th H))) (Wq (some (.int (bI (sp_areAlike S x y).2.1))) (fun H => MdAt D cI cZ d (sp_areAlike S x y).2.2 (nI (sp_areAlike S x y).1) H) (Ao d 9)) 0 0 (Ao d 9) := by
  have hbd2 : S.2.1 ≤ 40 := hI.2.2.2.1
  have hCC : ∀ cu, cu < 3 → ∀ y, S.2.2.1 cu = some y → y.1 < 4 := fun cu hcu y hy => by have h := hI.2.2.2.2.1 cu hcu; rw [hy] at h; exact h.1
  rcases bkn_cases 4 (by decide) x with ⟨b, hb4, rfl, hbk⟩ | ⟨hbk, hno⟩
  · rcases bkn_cases 4 (by decide) y with ⟨o, ho4, rfl, hbo⟩ | ⟨hbo, hno⟩
    · have hN := hI.1 b hb4
      have hNo := hI.1 o ho4
      by_cases hlen : (S.1 b).length = (S.1 o).length
      · skip
        have e9 : sp_areAlike S (nI (b)) (nI (o)) = (0, alB (S.1 b) (S.1 o), S) := by simp [sp_areAlike, ask2, hbk, hbo]
        rw [e9]
        refine m_start (by decide) (Nat.le_of_ble_eq_true rfl) ?_
        intro p e s m below meth c hx hb hr hG hown hlocks hml hB ls hl
        have hl : lv_has ls 5 [(0, .ref (d 0)), (1, .int (nI (b))), (2, .int (nI (o)))] := hl
        obtain ⟨hB0, hK⟩ := hB
        have hS : va_S (Ao d 9) s.heap s.heap [] := va_S.rf
        refine lv_iload_n hx hb dX5_areAlike_0 rfl (lv_at hl 1 rfl) ?_
        refine k1_S hx hb hml hown hG cs_X5_68 (by have h := c5_isBook l D (nI (b)); rw [rch_in (by omega) (by decide)] at h; exact h) (by decide) (pzS (hK.sub (tys' := []) [] rfl) trivial) rfl hl.1 rfl (Nat.le_of_ble_eq_true rfl) dX5_areAlike_1 ⟨Nat.zero_le _, Nat.zero_le _⟩ rfl ?_
        refine x_ifb_eq (tgt := 14) hx hb dX5_areAlike_4 (by decide) (fun zc1 => False.elim (by first | exact absurd zc1 (by decide) | omega | (simp_all; done))) (fun zc1 => ?_)
        refine lv_iload_n hx hb dX5_areAlike_7 rfl (lv_at hl 2 rfl) ?_
        refine k1_S hx hb hml hown hG cs_X5_68 (by have h := c5_isBook l D (nI (o)); rw [rch_in (by omega) (by decide)] at h; exact h) (by decide) (pzS (hK.sub (tys' := []) [] rfl) trivial) rfl hl.1 rfl (Nat.le_of_ble_eq_true rfl) dX5_areAlike_8 ⟨Nat.zero_le _, Nat.zero_le _⟩ rfl ?_
        refine x_ifb_ne (tgt := 20) hx hb dX5_areAlike_11 (by decide) (fun zc2 => ?_) (fun zc2 => False.elim (by first | exact absurd zc2 (by decide) | omega | (simp_all; done)))
        obtain ⟨K, V, sz, cb, ck, ca, it, ou, hP, hMB, hMC, hMO⟩ := id hB0
        have hP : va_P D vwCl [(d 0, .inr (5, [.ref (d 1), .ref (d 2), .ref (d 3), .int (nI (S.2.1)), .int (th), .ref (d 4), .ref (d 5), .ref (d 6), .ref (d 7), .ref (d 8), .int (nI (S.2.2.2.length))])), (d 1, .inl (cI, (804, .inl K))), (d 2, .inl (cI, (804, .inl V))), (d 3, .inl (cI, (4, .inl sz))), (d 4, .inl (cI, (3, .inl cb))), (d 5, .inl (cI, (3, .inl ck))), (d 6, .inl (cI, (3, .inl ca))), (d 7, .inl (cZ, (3, .inl it))), (d 8, .inl (cI, (6000, .inl ou)))] s.heap := hP
        have hD : va_D (Ao d 9) [(d 0, .inr (5, [.ref (d 1), .ref (d 2), .ref (d 3), .int (nI (S.2.1)), .int (th), .ref (d 4), .ref (d 5), .ref (d 6), .ref (d 7), .ref (d 8), .int (nI (S.2.2.2.length))])), (d 1, .inl (cI, (804, .inl K))), (d 2, .inl (cI, (804, .inl V))), (d 3, .inl (cI, (4, .inl sz))), (d 4, .inl (cI, (3, .inl cb))), (d 5, .inl (cI, (3, .inl ck))), (d 6, .inl (cI, (3, .inl ca))), (d 7, .inl (cZ, (3, .inl it))), (d 8, .inl (cI, (6000, .inl ou)))] := hap.D9
        refine lv_aload_n hx hb dX5_areAlike_20 rfl (lv_at hl 0 rfl) ?_
        refine gf_X5_16 hx hb hG hown hK hP 0 rfl rfl dX5_areAlike_21 ?_
        refine lv_iload_n hx hb dX5_areAlike_24 rfl (lv_at hl 1 rfl) ?_
        refine x_iald hx hb hK hP 3 0 rfl rfl (by omega) (by decide) dX5_areAlike_25 ?_
        rw [(hMB (b) (by omega)).1]
        refine lv_aload_n hx hb dX5_areAlike_26 rfl (lv_at hl 0 rfl) ?_
        refine gf_X5_16 hx hb hG hown hK hP 0 rfl rfl dX5_areAlike_27 ?_
        refine lv_iload_n hx hb dX5_areAlike_30 rfl (lv_at hl 2 rfl) ?_
        refine x_iald hx hb hK hP 3 0 rfl rfl (by omega) (by decide) dX5_areAlike_31 ?_
        rw [(hMB (o) (by omega)).1]
        refine x_cmp_ne (tgt := 39) hx hb dX5_areAlike_32 (by decide) (by omega) (by omega) (fun zc3 => False.elim (by first | omega | contradiction | exact absurd zc3 (m1_ne _ (by omega)) | exact absurd zc3 (by decide) | exact absurd (Eq.symm zc3) (m1_ne _ (by omega)) | (simp_all; done))) (fun zc3 => ?_)
        refine lv_iconst (v := nI 1) hx hb dX5_areAlike_35 (by decide) ?_
        refine lv_goto (tgt := 40) hx hb dX5_areAlike_36 (by decide) ?_
        refine lv_istore_n (lv' := [(3, .int (nI (1))), (0, .ref (d 0)), (1, .int (nI (b))), (2, .int (nI (o)))]) hx hb dX5_areAlike_40 rfl hl (by decide) rfl (fun ls hl => ?_)
        refine lv_iconst (v := nI 0) hx hb dX5_areAlike_41 (by decide) ?_
        refine lv_istore (lv' := [(4, .int (nI (0))), (3, .int (nI (1))), (0, .ref (d 0)), (1, .int (nI (b))), (2, .int (nI (o)))]) hx hb dX5_areAlike_42 hl (by decide) rfl (fun ls hl => ?_)
        suffices KK : ∀ (n i : Nat), (S.1 b).length < i + n → i ≤ (S.1 b).length → allB (rowP (S.1 b) (S.1 o)) i = true → ∀ ls : Array Slot, lv_has ls 5 [(4, .int (nI (i))), (3, .int (nI (1))), (0, .ref (d 0)), (1, .int (nI (b))), (2, .int (nI (o)))] → W p l e (rmN 5) s m [.ref (d 0), .int (nI (b)), .int (nI (o))].toArray below meth c s.heap [] 0 0 (MQ below (Wq (some (.int (bI (alB (S.1 b) (S.1 o))))) (fun H => MdAt D cI cZ d S (nI 0) H) (Ao d 9)) [.ref (d 0), .int (nI (b)), .int (nI (o))].toArray s 0 0 (Ao d 9)) (F0 m 44 ls []) from KK ((S.1 b).length + 1) 0 (by omega) (by omega) rfl ls (lv_sub hl [0, 1, 2, 3, 4] rfl)
        clear hl
        intro n
        induction n with
        | zero => intro i h1 h2; omega
        | succ n ih =>
          intro i h1 h2 hall ls hl
          refine lv_iload hx hb dX5_areAlike_44 (lv_at hl 0 rfl) ?_
          refine lv_aload_n hx hb dX5_areAlike_46 rfl (lv_at hl 2 rfl) ?_
          refine gf_X5_16 hx hb hG hown hK hP 0 rfl rfl dX5_areAlike_47 ?_
          refine lv_iload_n hx hb dX5_areAlike_50 rfl (lv_at hl 3 rfl) ?_
          refine x_iald hx hb hK hP 3 0 rfl rfl (by omega) (by decide) dX5_areAlike_51 ?_
          rw [(hMB (b) (by omega)).1]
          refine x_cmp_ge (tgt := 129) hx hb dX5_areAlike_52 (by decide) (by omega) (by omega) (fun c1 => ?_) (fun c1 => ?_)
          · have ei : i = (S.1 b).length := by omega
            refine lv_aload_n hx hb dX5_areAlike_129 rfl (lv_at hl 2 rfl) ?_
            refine lv_iload_n hx hb dX5_areAlike_130 rfl (lv_at hl 1 rfl) ?_
            refine k2_V hx hb hml hown hG cs_X5_82 (c5_says l D cI cZ d S th true hap) (by decide) (pzV hK rfl hB0.rc hB0) rfl hl.1 rfl (Nat.le_of_ble_eq_true rfl) dX5_areAlike_131 ⟨Nat.zero_le _, Nat.zero_le _⟩ rfl hS (fun q h => h) (fun H locs hB0 hz hk hS => ?_)
            exact w_z (PB := (fun H => MdAt D cI cZ d S (nI 0) H)) (by rw [alB_yes hlen (by rw [← ei]; exact hall)]) hB0 hS hx hb hr hlocks dX5_areAlike_134
          · refine lv_iload_n hx hb dX5_areAlike_55 rfl (lv_at hl 1 rfl) ?_
            refine x_if_eq (tgt := 129) hx hb dX5_areAlike_56 (by decide) (by omega) (fun zc4 => False.elim (by first | exact absurd zc4 (by decide) | omega | (simp_all; done))) (fun zc4 => ?_)
            refine lv_aload_n hx hb dX5_areAlike_59 rfl (lv_at hl 2 rfl) ?_
            refine gf_X5_7 hx hb hG hown hK hP 0 rfl rfl dX5_areAlike_60 ?_
            refine lv_sipush (v := nI 201) hx hb dX5_areAlike_63 (by decide) ?_
            refine lv_iload_n hx hb dX5_areAlike_66 rfl (lv_at hl 3 rfl) ?_
            refine x_imul (v := nI (201 * b)) hx hb dX5_areAlike_67 (pk_mul _ _) ?_
            refine lv_iload hx hb dX5_areAlike_68 (lv_at hl 0 rfl) ?_
            refine x_iadd (v := nI ((201 * b) + i)) hx hb dX5_areAlike_70 (nI_add _ _) ?_
            refine x_iald hx hb hK hP 1 0 rfl rfl (by omega) (by decide) dX5_areAlike_71 ?_
            rw [show K ((201 * b) + i) = kf (S.1 b) i from ((hMB b (by omega)).2.2 i (by omega)).1]
            refine lv_aload_n hx hb dX5_areAlike_72 rfl (lv_at hl 2 rfl) ?_
            refine gf_X5_7 hx hb hG hown hK hP 0 rfl rfl dX5_areAlike_73 ?_
            refine lv_sipush (v := nI 201) hx hb dX5_areAlike_76 (by decide) ?_
            refine lv_iload_n hx hb dX5_areAlike_79 rfl (lv_at hl 4 rfl) ?_
            refine x_imul (v := nI (201 * o)) hx hb dX5_areAlike_80 (pk_mul _ _) ?_
            refine lv_iload hx hb dX5_areAlike_81 (lv_at hl 0 rfl) ?_
            refine x_iadd (v := nI ((201 * o) + i)) hx hb dX5_areAlike_83 (nI_add _ _) ?_
            refine x_iald hx hb hK hP 1 0 rfl rfl (by omega) (by decide) dX5_areAlike_84 ?_
            rw [show K ((201 * o) + i) = kf (S.1 o) i from ((hMB o (by omega)).2.2 i (by omega)).1]
            refine lv_icmp_ne (tgt := 121) hx hb dX5_areAlike_85 (by decide) (fun c2 => ?_) (fun c2 => ?_)
            · refine lv_iconst (v := nI 0) hx hb dX5_areAlike_121 (by decide) ?_
              refine lv_istore_n (lv' := [(3, .int (nI (0))), (4, .int (nI (i))), (0, .ref (d 0)), (1, .int (nI (b))), (2, .int (nI (o)))]) hx hb dX5_areAlike_122 rfl hl (by decide) rfl (fun ls hl => ?_)
              refine x_iinc (k := 1) (lv' := [(4, .int (nI (i + 1))), (3, .int (nI (0))), (0, .ref (d 0)), (1, .int (nI (b))), (2, .int (nI (o)))]) hx hb dX5_areAlike_123 hl rfl (by decide) rfl (fun ls hl => ?_)
              refine lv_goto (tgt := 44) hx hb dX5_areAlike_126 (by decide) ?_
              refine lv_iload hx hb dX5_areAlike_44 (lv_at hl 0 rfl) ?_
              refine lv_aload_n hx hb dX5_areAlike_46 rfl (lv_at hl 2 rfl) ?_
              refine gf_X5_16 hx hb hG hown hK hP 0 rfl rfl dX5_areAlike_47 ?_
              refine lv_iload_n hx hb dX5_areAlike_50 rfl (lv_at hl 3 rfl) ?_
              refine x_iald hx hb hK hP 3 0 rfl rfl (by omega) (by decide) dX5_areAlike_51 ?_
              rw [(hMB (b) (by omega)).1]
              refine x_cmp_ge (tgt := 129) hx hb dX5_areAlike_52 (by decide) (by omega) (by omega) (fun c9 => ?_) (fun c9 => ?_)
              · refine lv_aload_n hx hb dX5_areAlike_129 rfl (lv_at hl 2 rfl) ?_
                refine lv_iload_n hx hb dX5_areAlike_130 rfl (lv_at hl 1 rfl) ?_
                refine k2_V hx hb hml hown hG cs_X5_82 (c5_says l D cI cZ d S th false hap) (by decide) (pzV hK rfl hB0.rc hB0) rfl hl.1 rfl (Nat.le_of_ble_eq_true rfl) dX5_areAlike_131 ⟨Nat.zero_le _, Nat.zero_le _⟩ rfl hS (fun q h => h) (fun H locs hB0 hz hk hS => ?_)
                exact w_z (PB := (fun H => MdAt D cI cZ d S (nI 0) H)) (by rw [alB_no (i := i) (by omega) (rowP_k c2)]) hB0 hS hx hb hr hlocks dX5_areAlike_134
              · refine lv_iload_n hx hb dX5_areAlike_55 rfl (lv_at hl 1 rfl) ?_
                refine x_if_eq (tgt := 129) hx hb dX5_areAlike_56 (by decide) (by omega) (fun zc5 => ?_) (fun zc5 => False.elim (by first | exact absurd zc5 (by decide) | omega | (simp_all; done)))
                refine lv_aload_n hx hb dX5_areAlike_129 rfl (lv_at hl 2 rfl) ?_
                refine lv_iload_n hx hb dX5_areAlike_130 rfl (lv_at hl 1 rfl) ?_
                refine k2_V hx hb hml hown hG cs_X5_82 (c5_says l D cI cZ d S th false hap) (by decide) (pzV hK rfl hB0.rc hB0) rfl hl.1 rfl (Nat.le_of_ble_eq_true rfl) dX5_areAlike_131 ⟨Nat.zero_le _, Nat.zero_le _⟩ rfl hS (fun q h => h) (fun H locs hB0 hz hk hS => ?_)
                exact w_z (PB := (fun H => MdAt D cI cZ d S (nI 0) H)) (by rw [alB_no (i := i) (by omega) (rowP_k c2)]) hB0 hS hx hb hr hlocks dX5_areAlike_134
            · refine lv_aload_n hx hb dX5_areAlike_88 rfl (lv_at hl 2 rfl) ?_
              refine gf_X5_13 hx hb hG hown hK hP 0 rfl rfl dX5_areAlike_89 ?_
              refine lv_sipush (v := nI 201) hx hb dX5_areAlike_92 (by decide) ?_
              refine lv_iload_n hx hb dX5_areAlike_95 rfl (lv_at hl 3 rfl) ?_
              refine x_imul (v := nI (201 * b)) hx hb dX5_areAlike_96 (pk_mul _ _) ?_
              refine lv_iload hx hb dX5_areAlike_97 (lv_at hl 0 rfl) ?_
              refine x_iadd (v := nI ((201 * b) + i)) hx hb dX5_areAlike_99 (nI_add _ _) ?_
              refine x_iald hx hb hK hP 2 0 rfl rfl (by omega) (by decide) dX5_areAlike_100 ?_
              rw [show V ((201 * b) + i) = vf (S.1 b) i from ((hMB b (by omega)).2.2 i (by omega)).2]
              refine lv_aload_n hx hb dX5_areAlike_101 rfl (lv_at hl 2 rfl) ?_
              refine gf_X5_13 hx hb hG hown hK hP 0 rfl rfl dX5_areAlike_102 ?_
              refine lv_sipush (v := nI 201) hx hb dX5_areAlike_105 (by decide) ?_
              refine lv_iload_n hx hb dX5_areAlike_108 rfl (lv_at hl 4 rfl) ?_
              refine x_imul (v := nI (201 * o)) hx hb dX5_areAlike_109 (pk_mul _ _) ?_
              refine lv_iload hx hb dX5_areAlike_110 (lv_at hl 0 rfl) ?_
              refine x_iadd (v := nI ((201 * o) + i)) hx hb dX5_areAlike_112 (nI_add _ _) ?_
              refine x_iald hx hb hK hP 2 0 rfl rfl (by omega) (by decide) dX5_areAlike_113 ?_
              rw [show V ((201 * o) + i) = vf (S.1 o) i from ((hMB o (by omega)).2.2 i (by omega)).2]
              refine lv_icmp_ne (tgt := 121) hx hb dX5_areAlike_114 (by decide) (fun c3 => ?_) (fun c3 => ?_)
              · refine lv_iconst (v := nI 0) hx hb dX5_areAlike_121 (by decide) ?_
                refine lv_istore_n (lv' := [(3, .int (nI (0))), (4, .int (nI (i))), (0, .ref (d 0)), (1, .int (nI (b))), (2, .int (nI (o)))]) hx hb dX5_areAlike_122 rfl hl (by decide) rfl (fun ls hl => ?_)
                refine x_iinc (k := 1) (lv' := [(4, .int (nI (i + 1))), (3, .int (nI (0))), (0, .ref (d 0)), (1, .int (nI (b))), (2, .int (nI (o)))]) hx hb dX5_areAlike_123 hl rfl (by decide) rfl (fun ls hl => ?_)
                refine lv_goto (tgt := 44) hx hb dX5_areAlike_126 (by decide) ?_
                refine lv_iload hx hb dX5_areAlike_44 (lv_at hl 0 rfl) ?_
                refine lv_aload_n hx hb dX5_areAlike_46 rfl (lv_at hl 2 rfl) ?_
                refine gf_X5_16 hx hb hG hown hK hP 0 rfl rfl dX5_areAlike_47 ?_
                refine lv_iload_n hx hb dX5_areAlike_50 rfl (lv_at hl 3 rfl) ?_
                refine x_iald hx hb hK hP 3 0 rfl rfl (by omega) (by decide) dX5_areAlike_51 ?_
                rw [(hMB (b) (by omega)).1]
                refine x_cmp_ge (tgt := 129) hx hb dX5_areAlike_52 (by decide) (by omega) (by omega) (fun c9 => ?_) (fun c9 => ?_)
                · refine lv_aload_n hx hb dX5_areAlike_129 rfl (lv_at hl 2 rfl) ?_
                  refine lv_iload_n hx hb dX5_areAlike_130 rfl (lv_at hl 1 rfl) ?_
                  refine k2_V hx hb hml hown hG cs_X5_82 (c5_says l D cI cZ d S th false hap) (by decide) (pzV hK rfl hB0.rc hB0) rfl hl.1 rfl (Nat.le_of_ble_eq_true rfl) dX5_areAlike_131 ⟨Nat.zero_le _, Nat.zero_le _⟩ rfl hS (fun q h => h) (fun H locs hB0 hz hk hS => ?_)
                  exact w_z (PB := (fun H => MdAt D cI cZ d S (nI 0) H)) (by rw [alB_no (i := i) (by omega) (rowP_v c3)]) hB0 hS hx hb hr hlocks dX5_areAlike_134
                · refine lv_iload_n hx hb dX5_areAlike_55 rfl (lv_at hl 1 rfl) ?_
                  refine x_if_eq (tgt := 129) hx hb dX5_areAlike_56 (by decide) (by omega) (fun zc6 => ?_) (fun zc6 => False.elim (by first | exact absurd zc6 (by decide) | omega | (simp_all; done)))
                  refine lv_aload_n hx hb dX5_areAlike_129 rfl (lv_at hl 2 rfl) ?_
                  refine lv_iload_n hx hb dX5_areAlike_130 rfl (lv_at hl 1 rfl) ?_
                  refine k2_V hx hb hml hown hG cs_X5_82 (c5_says l D cI cZ d S th false hap) (by decide) (pzV hK rfl hB0.rc hB0) rfl hl.1 rfl (Nat.le_of_ble_eq_true rfl) dX5_areAlike_131 ⟨Nat.zero_le _, Nat.zero_le _⟩ rfl hS (fun q h => h) (fun H locs hB0 hz hk hS => ?_)
                  exact w_z (PB := (fun H => MdAt D cI cZ d S (nI 0) H)) (by rw [alB_no (i := i) (by omega) (rowP_v c3)]) hB0 hS hx hb hr hlocks dX5_areAlike_134
              · refine lv_iconst (v := nI 1) hx hb dX5_areAlike_117 (by decide) ?_
                refine lv_goto (tgt := 122) hx hb dX5_areAlike_118 (by decide) ?_
                refine lv_istore_n (lv' := [(3, .int (nI (1))), (4, .int (nI (i))), (0, .ref (d 0)), (1, .int (nI (b))), (2, .int (nI (o)))]) hx hb dX5_areAlike_122 rfl hl (by decide) rfl (fun ls hl => ?_)
                refine x_iinc (k := 1) (lv' := [(4, .int (nI (i + 1))), (3, .int (nI (1))), (0, .ref (d 0)), (1, .int (nI (b))), (2, .int (nI (o)))]) hx hb dX5_areAlike_123 hl rfl (by decide) rfl (fun ls hl => ?_)
                refine lv_goto (tgt := 44) hx hb dX5_areAlike_126 (by decide) ?_
                exact ih (i + 1) (by omega) (by omega) (allB_s hall (rowP_y (by first | exact c2 | exact Decidable.of_not_not c2) (by first | exact c3 | exact Decidable.of_not_not c3))) ls (lv_sub hl [0, 1, 2, 3, 4] rfl)
      · skip
        have e9 : sp_areAlike S (nI (b)) (nI (o)) = (0, alB (S.1 b) (S.1 o), S) := by simp [sp_areAlike, ask2, hbk, hbo]
        rw [e9]
        refine m_start (by decide) (Nat.le_of_ble_eq_true rfl) ?_
        intro p e s m below meth c hx hb hr hG hown hlocks hml hB ls hl
        have hl : lv_has ls 5 [(0, .ref (d 0)), (1, .int (nI (b))), (2, .int (nI (o)))] := hl
        obtain ⟨hB0, hK⟩ := hB
        have hS : va_S (Ao d 9) s.heap s.heap [] := va_S.rf
        refine lv_iload_n hx hb dX5_areAlike_0 rfl (lv_at hl 1 rfl) ?_
        refine k1_S hx hb hml hown hG cs_X5_68 (by have h := c5_isBook l D (nI (b)); rw [rch_in (by omega) (by decide)] at h; exact h) (by decide) (pzS (hK.sub (tys' := []) [] rfl) trivial) rfl hl.1 rfl (Nat.le_of_ble_eq_true rfl) dX5_areAlike_1 ⟨Nat.zero_le _, Nat.zero_le _⟩ rfl ?_
        refine x_ifb_eq (tgt := 14) hx hb dX5_areAlike_4 (by decide) (fun zc1 => False.elim (by first | exact absurd zc1 (by decide) | omega | (simp_all; done))) (fun zc1 => ?_)
        refine lv_iload_n hx hb dX5_areAlike_7 rfl (lv_at hl 2 rfl) ?_
        refine k1_S hx hb hml hown hG cs_X5_68 (by have h := c5_isBook l D (nI (o)); rw [rch_in (by omega) (by decide)] at h; exact h) (by decide) (pzS (hK.sub (tys' := []) [] rfl) trivial) rfl hl.1 rfl (Nat.le_of_ble_eq_true rfl) dX5_areAlike_8 ⟨Nat.zero_le _, Nat.zero_le _⟩ rfl ?_
        refine x_ifb_ne (tgt := 20) hx hb dX5_areAlike_11 (by decide) (fun zc2 => ?_) (fun zc2 => False.elim (by first | exact absurd zc2 (by decide) | omega | (simp_all; done)))
        refine lv_aload_n hx hb dX5_areAlike_20 rfl (lv_at hl 0 rfl) ?_
        obtain ⟨K, V, sz, cb, ck, ca, it, ou, hP, hMB, hMC, hMO⟩ := id hB0
        have hP : va_P D vwCl [(d 0, .inr (5, [.ref (d 1), .ref (d 2), .ref (d 3), .int (nI (S.2.1)), .int (th), .ref (d 4), .ref (d 5), .ref (d 6), .ref (d 7), .ref (d 8), .int (nI (S.2.2.2.length))])), (d 1, .inl (cI, (804, .inl K))), (d 2, .inl (cI, (804, .inl V))), (d 3, .inl (cI, (4, .inl sz))), (d 4, .inl (cI, (3, .inl cb))), (d 5, .inl (cI, (3, .inl ck))), (d 6, .inl (cI, (3, .inl ca))), (d 7, .inl (cZ, (3, .inl it))), (d 8, .inl (cI, (6000, .inl ou)))] s.heap := hP
        have hD : va_D (Ao d 9) [(d 0, .inr (5, [.ref (d 1), .ref (d 2), .ref (d 3), .int (nI (S.2.1)), .int (th), .ref (d 4), .ref (d 5), .ref (d 6), .ref (d 7), .ref (d 8), .int (nI (S.2.2.2.length))])), (d 1, .inl (cI, (804, .inl K))), (d 2, .inl (cI, (804, .inl V))), (d 3, .inl (cI, (4, .inl sz))), (d 4, .inl (cI, (3, .inl cb))), (d 5, .inl (cI, (3, .inl ck))), (d 6, .inl (cI, (3, .inl ca))), (d 7, .inl (cZ, (3, .inl it))), (d 8, .inl (cI, (6000, .inl ou)))] := hap.D9
        refine gf_X5_16 hx hb hG hown hK hP 0 rfl rfl dX5_areAlike_21 ?_
        refine lv_iload_n hx hb dX5_areAlike_24 rfl (lv_at hl 1 rfl) ?_
        refine x_iald hx hb hK hP 3 0 rfl rfl (by omega) (by decide) dX5_areAlike_25 ?_
        rw [(hMB (b) (by omega)).1]
        refine lv_aload_n hx hb dX5_areAlike_26 rfl (lv_at hl 0 rfl) ?_
        refine gf_X5_16 hx hb hG hown hK hP 0 rfl rfl dX5_areAlike_27 ?_
        refine lv_iload_n hx hb dX5_areAlike_30 rfl (lv_at hl 2 rfl) ?_
        refine x_iald hx hb hK hP 3 0 rfl rfl (by omega) (by decide) dX5_areAlike_31 ?_
        rw [(hMB (o) (by omega)).1]
        refine x_cmp_ne (tgt := 39) hx hb dX5_areAlike_32 (by decide) (by omega) (by omega) (fun zc3 => ?_) (fun zc3 => False.elim (by first | omega | contradiction | exact absurd zc3 (m1_ne _ (by omega)) | exact absurd zc3 (by decide) | exact absurd (Eq.symm zc3) (m1_ne _ (by omega)) | (simp_all; done)))
        refine lv_iconst (v := nI 0) hx hb dX5_areAlike_39 (by decide) ?_
        refine lv_istore_n (lv' := [(3, .int (nI (0))), (0, .ref (d 0)), (1, .int (nI (b))), (2, .int (nI (o)))]) hx hb dX5_areAlike_40 rfl hl (by decide) rfl (fun ls hl => ?_)
        refine lv_iconst (v := nI 0) hx hb dX5_areAlike_41 (by decide) ?_
        refine lv_istore (lv' := [(4, .int (nI (0))), (3, .int (nI (0))), (0, .ref (d 0)), (1, .int (nI (b))), (2, .int (nI (o)))]) hx hb dX5_areAlike_42 hl (by decide) rfl (fun ls hl => ?_)
        refine lv_iload hx hb dX5_areAlike_44 (lv_at hl 0 rfl) ?_
        refine lv_aload_n hx hb dX5_areAlike_46 rfl (lv_at hl 2 rfl) ?_
        refine gf_X5_16 hx hb hG hown hK hP 0 rfl rfl dX5_areAlike_47 ?_
        refine lv_iload_n hx hb dX5_areAlike_50 rfl (lv_at hl 3 rfl) ?_
        refine x_iald hx hb hK hP 3 0 rfl rfl (by omega) (by decide) dX5_areAlike_51 ?_
        rw [(hMB (b) (by omega)).1]
        refine x_cmp_ge (tgt := 129) hx hb dX5_areAlike_52 (by decide) (by omega) (by omega) (fun c9 => ?_) (fun c9 => ?_)
        · refine lv_aload_n hx hb dX5_areAlike_129 rfl (lv_at hl 2 rfl) ?_
          refine lv_iload_n hx hb dX5_areAlike_130 rfl (lv_at hl 1 rfl) ?_
          refine k2_V hx hb hml hown hG cs_X5_82 (c5_says l D cI cZ d S th false hap) (by decide) (pzV hK rfl hB0.rc hB0) rfl hl.1 rfl (Nat.le_of_ble_eq_true rfl) dX5_areAlike_131 ⟨Nat.zero_le _, Nat.zero_le _⟩ rfl hS (fun q h => h) (fun H locs hB0 hz hk hS => ?_)
          exact w_z (PB := (fun H => MdAt D cI cZ d S (nI 0) H)) (by rw [alB_len hlen]) hB0 hS hx hb hr hlocks dX5_areAlike_134
        · refine lv_iload_n hx hb dX5_areAlike_55 rfl (lv_at hl 1 rfl) ?_
          refine x_if_eq (tgt := 129) hx hb dX5_areAlike_56 (by decide) (by omega) (fun zc4 => ?_) (fun zc4 => False.elim (by first | exact absurd zc4 (by decide) | omega | (simp_all; done)))
          refine lv_aload_n hx hb dX5_areAlike_129 rfl (lv_at hl 2 rfl) ?_
          refine lv_iload_n hx hb dX5_areAlike_130 rfl (lv_at hl 1 rfl) ?_
          refine k2_V hx hb hml hown hG cs_X5_82 (c5_says l D cI cZ d S th false hap) (by decide) (pzV hK rfl hB0.rc hB0) rfl hl.1 rfl (Nat.le_of_ble_eq_true rfl) dX5_areAlike_131 ⟨Nat.zero_le _, Nat.zero_le _⟩ rfl hS (fun q h => h) (fun H locs hB0 hz hk hS => ?_)
          exact w_z (PB := (fun H => MdAt D cI cZ d S (nI 0) H)) (by rw [alB_len hlen]) hB0 hS hx hb hr hlocks dX5_areAlike_134
    · skip
      have e9 : sp_areAlike S (nI (b)) y = (1, false, S) := by simp [sp_areAlike, ask2, hbk, hbo]
      rw [e9]
      refine m_start (by decide) (Nat.le_of_ble_eq_true rfl) ?_
      intro p e s m below meth c hx hb hr hG hown hlocks hml hB ls hl
      have hl : lv_has ls 5 [(0, .ref (d 0)), (1, .int (nI (b))), (2, .int (y))] := hl
      obtain ⟨hB0, hK⟩ := hB
      have hS : va_S (Ao d 9) s.heap s.heap [] := va_S.rf
      refine lv_iload_n hx hb dX5_areAlike_0 rfl (lv_at hl 1 rfl) ?_
      refine k1_S hx hb hml hown hG cs_X5_68 (by have h := c5_isBook l D (nI (b)); rw [rch_in (by omega) (by decide)] at h; exact h) (by decide) (pzS (hK.sub (tys' := []) [] rfl) trivial) rfl hl.1 rfl (Nat.le_of_ble_eq_true rfl) dX5_areAlike_1 ⟨Nat.zero_le _, Nat.zero_le _⟩ rfl ?_
      refine x_ifb_eq (tgt := 14) hx hb dX5_areAlike_4 (by decide) (fun zc1 => False.elim (by first | exact absurd zc1 (by decide) | omega | (simp_all; done))) (fun zc1 => ?_)
      refine lv_iload_n hx hb dX5_areAlike_7 rfl (lv_at hl 2 rfl) ?_
      refine k1_S hx hb hml hown hG cs_X5_68 (by have h := c5_isBook l D y; rw [hno] at h; exact h) (by decide) (pzS (hK.sub (tys' := []) [] rfl) trivial) rfl hl.1 rfl (Nat.le_of_ble_eq_true rfl) dX5_areAlike_8 ⟨Nat.zero_le _, Nat.zero_le _⟩ rfl ?_
      refine x_ifb_ne (tgt := 20) hx hb dX5_areAlike_11 (by decide) (fun zc2 => False.elim (by first | exact absurd zc2 (by decide) | omega | (simp_all; done))) (fun zc2 => ?_)
      refine lv_aload_n hx hb dX5_areAlike_14 rfl (lv_at hl 0 rfl) ?_
      refine lv_iconst (v := nI 1) hx hb dX5_areAlike_15 (by decide) ?_
      refine k2_V hx hb hml hown hG cs_X5_72 (c5_denies l D cI cZ d S th 1 hap) (by decide) (pzV hK rfl hB0.rc hB0) rfl hl.1 rfl (Nat.le_of_ble_eq_true rfl) dX5_areAlike_16 ⟨Nat.zero_le _, Nat.zero_le _⟩ rfl hS (fun q h => h) (fun H locs hB0 hz hk hS => ?_)
      exact w_z (PB := (fun H => MdAt D cI cZ d S (nI 1) H)) rfl hB0 hS hx hb hr hlocks dX5_areAlike_19
  · skip
    have e9 : sp_areAlike S x y = (1, false, S) := by simp [sp_areAlike, ask2, hbk]
    rw [e9]
    refine m_start (by decide) (Nat.le_of_ble_eq_true rfl) ?_
    intro p e s m below meth c hx hb hr hG hown hlocks hml hB ls hl
    have hl : lv_has ls 5 [(0, .ref (d 0)), (1, .int (x)), (2, .int (y))] := hl
    obtain ⟨hB0, hK⟩ := hB
    have hS : va_S (Ao d 9) s.heap s.heap [] := va_S.rf
    refine lv_iload_n hx hb dX5_areAlike_0 rfl (lv_at hl 1 rfl) ?_
    refine k1_S hx hb hml hown hG cs_X5_68 (by have h := c5_isBook l D x; rw [hno] at h; exact h) (by decide) (pzS (hK.sub (tys' := []) [] rfl) trivial) rfl hl.1 rfl (Nat.le_of_ble_eq_true rfl) dX5_areAlike_1 ⟨Nat.zero_le _, Nat.zero_le _⟩ rfl ?_
    refine x_ifb_eq (tgt := 14) hx hb dX5_areAlike_4 (by decide) (fun zc1 => ?_) (fun zc1 => False.elim (by first | exact absurd zc1 (by decide) | omega | (simp_all; done)))
    refine lv_aload_n hx hb dX5_areAlike_14 rfl (lv_at hl 0 rfl) ?_
    refine lv_iconst (v := nI 1) hx hb dX5_areAlike_15 (by decide) ?_
    refine k2_V hx hb hml hown hG cs_X5_72 (c5_denies l D cI cZ d S th 1 hap) (by decide) (pzV hK rfl hB0.rc hB0) rfl hl.1 rfl (Nat.le_of_ble_eq_true rfl) dX5_areAlike_16 ⟨Nat.zero_le _, Nat.zero_le _⟩ rfl hS (fun q h => h) (fun H locs hB0 hz hk hS => ?_)
    exact w_z (PB := (fun H => MdAt D cI cZ d S (nI 1) H)) rfl hB0 hS hx hb hr hlocks dX5_areAlike_19
set_option maxHeartbeats 4000000 in
set_option maxRecDepth 100000 in
theorem m_addToAll (l : Launch) (D : va_G) (cI cZ : ClassId) (d : Nat → Nat) (S : St) (th : Int32) (x v : Int32) (hI : Inv S) (hap : Ap d 9) : Met l yX5_addToAll (ws_ yX5_addToAll cX5_addToAll 4 (some .int)) (rmN 4) (va_Pc [.ref (d 0), .int x, .int v] (pz D [(cI, .int), (cZ, .boolean)] (fun H => MdAt D cI cZ d S th H))) (Wq (some (.int (sp_addToAll S x v).2.1)) (fun H => MdAt D cI cZ d (sp_addToAll S x v).2.2 (nI (sp_addToAll S x v).1) H) (Ao d 9)) 0 0 (Ao d 9) := by
  have hbd2 : S.2.1 ≤ 40 := hI.2.2.2.1
  have hCC : ∀ cu, cu < 3 → ∀ y, S.2.2.1 cu = some y → y.1 < 4 := fun cu hcu y hy => by have h := hI.2.2.2.2.1 cu hcu; rw [hy] at h; exact h.1
  rcases bkn_cases 4 (by decide) x with ⟨b, hb4, rfl, hbk⟩ | ⟨hbk, hno⟩
  · have hN := hI.1 b hb4
    by_cases h3 : b = 3
    · subst h3
      have e9 : sp_addToAll S (nI (3)) v = (2, 0, S) := by simp [sp_addToAll, hbk]
      rw [e9]
      refine m_start (by decide) (Nat.le_of_ble_eq_true rfl) ?_
      intro p e s m below meth c hx hb hr hG hown hlocks hml hB ls hl
      have hl : lv_has ls 4 [(0, .ref (d 0)), (1, .int (nI (3))), (2, .int (v))] := hl
      obtain ⟨hB0, hK⟩ := hB
      have hS : va_S (Ao d 9) s.heap s.heap [] := va_S.rf
      refine lv_iload_n hx hb dX5_addToAll_0 rfl (lv_at hl 1 rfl) ?_
      refine k1_S hx hb hml hown hG cs_X5_68 (by have h := c5_isBook l D (nI (3)); rw [rch_in (by omega) (by decide)] at h; exact h) (by decide) (pzS (hK.sub (tys' := []) [] rfl) trivial) rfl hl.1 rfl (Nat.le_of_ble_eq_true rfl) dX5_addToAll_1 ⟨Nat.zero_le _, Nat.zero_le _⟩ rfl ?_
      refine x_ifb_ne (tgt := 13) hx hb dX5_addToAll_4 (by decide) (fun zc1 => ?_) (fun zc1 => False.elim (by first | exact absurd zc1 (by decide) | omega | (simp_all; done)))
      refine lv_iload_n hx hb dX5_addToAll_13 rfl (lv_at hl 1 rfl) ?_
      refine lv_iconst (v := nI 3) hx hb dX5_addToAll_14 (by decide) ?_
      refine x_cmp_ne (tgt := 24) hx hb dX5_addToAll_15 (by decide) (by omega) (by omega) (fun zc2 => False.elim (by first | exact absurd zc2 (by decide) | omega | (simp_all; done))) (fun zc2 => ?_)
      refine lv_aload_n hx hb dX5_addToAll_18 rfl (lv_at hl 0 rfl) ?_
      refine lv_iconst (v := nI 2) hx hb dX5_addToAll_19 (by decide) ?_
      refine k2_V hx hb hml hown hG cs_X5_58 (c5_refuse l D cI cZ d S th 2 hap) (by decide) (pzV hK rfl hB0.rc hB0) rfl hl.1 rfl (Nat.le_of_ble_eq_true rfl) dX5_addToAll_20 ⟨Nat.zero_le _, Nat.zero_le _⟩ rfl hS (fun q h => h) (fun H locs hB0 hz hk hS => ?_)
      exact w_i (PB := (fun H => MdAt D cI cZ d S (nI 2) H)) rfl hB0 hS hx hb hr hlocks dX5_addToAll_23
    · skip
      have e9 : sp_addToAll S (nI (b)) v = (0, nI (S.1 b).length, clB (upB S b (adA (S.1 b) v (S.1 b).length)) b (-1)) := by simp [sp_addToAll, hbk, h3]
      rw [e9]
      refine m_start (by decide) (Nat.le_of_ble_eq_true rfl) ?_
      intro p e s m below meth c hx hb hr hG hown hlocks hml hB ls hl
      have hl : lv_has ls 4 [(0, .ref (d 0)), (1, .int (nI (b))), (2, .int (v))] := hl
      obtain ⟨hB0, hK⟩ := hB
      have hS : va_S (Ao d 9) s.heap s.heap [] := va_S.rf
      refine lv_iload_n hx hb dX5_addToAll_0 rfl (lv_at hl 1 rfl) ?_
      refine k1_S hx hb hml hown hG cs_X5_68 (by have h := c5_isBook l D (nI (b)); rw [rch_in (by omega) (by decide)] at h; exact h) (by decide) (pzS (hK.sub (tys' := []) [] rfl) trivial) rfl hl.1 rfl (Nat.le_of_ble_eq_true rfl) dX5_addToAll_1 ⟨Nat.zero_le _, Nat.zero_le _⟩ rfl ?_
      refine x_ifb_ne (tgt := 13) hx hb dX5_addToAll_4 (by decide) (fun zc1 => ?_) (fun zc1 => False.elim (by first | exact absurd zc1 (by decide) | omega | (simp_all; done)))
      refine lv_iload_n hx hb dX5_addToAll_13 rfl (lv_at hl 1 rfl) ?_
      refine lv_iconst (v := nI 3) hx hb dX5_addToAll_14 (by decide) ?_
      refine x_cmp_ne (tgt := 24) hx hb dX5_addToAll_15 (by decide) (by omega) (by omega) (fun zc2 => ?_) (fun zc2 => False.elim (by first | omega | contradiction | exact absurd zc2 (m1_ne _ (by omega)) | exact absurd zc2 (by decide) | exact absurd (Eq.symm zc2) (m1_ne _ (by omega)) | (simp_all; done)))
      obtain ⟨K, V, sz, cb, ck, ca, it, ou, hP, hMB, hMC, hMO⟩ := id hB0
      have hP : va_P D vwCl [(d 0, .inr (5, [.ref (d 1), .ref (d 2), .ref (d 3), .int (nI (S.2.1)), .int (th), .ref (d 4), .ref (d 5), .ref (d 6), .ref (d 7), .ref (d 8), .int (nI (S.2.2.2.length))])), (d 1, .inl (cI, (804, .inl K))), (d 2, .inl (cI, (804, .inl V))), (d 3, .inl (cI, (4, .inl sz))), (d 4, .inl (cI, (3, .inl cb))), (d 5, .inl (cI, (3, .inl ck))), (d 6, .inl (cI, (3, .inl ca))), (d 7, .inl (cZ, (3, .inl it))), (d 8, .inl (cI, (6000, .inl ou)))] s.heap := hP
      have hD : va_D (Ao d 9) [(d 0, .inr (5, [.ref (d 1), .ref (d 2), .ref (d 3), .int (nI (S.2.1)), .int (th), .ref (d 4), .ref (d 5), .ref (d 6), .ref (d 7), .ref (d 8), .int (nI (S.2.2.2.length))])), (d 1, .inl (cI, (804, .inl K))), (d 2, .inl (cI, (804, .inl V))), (d 3, .inl (cI, (4, .inl sz))), (d 4, .inl (cI, (3, .inl cb))), (d 5, .inl (cI, (3, .inl ck))), (d 6, .inl (cI, (3, .inl ca))), (d 7, .inl (cZ, (3, .inl it))), (d 8, .inl (cI, (6000, .inl ou)))] := hap.D9
      refine lv_iconst (v := nI 0) hx hb dX5_addToAll_24 (by decide) ?_
      refine lv_istore_n (lv' := [(3, .int (nI (0))), (0, .ref (d 0)), (1, .int (nI (b))), (2, .int (v))]) hx hb dX5_addToAll_25 rfl hl (by decide) rfl (fun ls hl => ?_)
      suffices KK : ∀ (n i : Nat) (V' : Nat → Int32), (S.1 b).length < i + n → i ≤ (S.1 b).length → MdB (va_up S.1 b (adA (S.1 b) v i)) K V' sz → ∀ (H : Heap) (locs : List Loc), va_P D vwCl [(d 0, .inr (5, [.ref (d 1), .ref (d 2), .ref (d 3), .int (nI (S.2.1)), .int (th), .ref (d 4), .ref (d 5), .ref (d 6), .ref (d 7), .ref (d 8), .int (nI (S.2.2.2.length))])), (d 1, .inl (cI, (804, .inl K))), (d 2, .inl (cI, (804, .inl V'))), (d 3, .inl (cI, (4, .inl sz))), (d 4, .inl (cI, (3, .inl cb))), (d 5, .inl (cI, (3, .inl ck))), (d 6, .inl (cI, (3, .inl ca))), (d 7, .inl (cZ, (3, .inl it))), (d 8, .inl (cI, (6000, .inl ou)))] H → va_D (Ao d 9) [(d 0, .inr (5, [.ref (d 1), .ref (d 2), .ref (d 3), .int (nI (S.2.1)), .int (th), .ref (d 4), .ref (d 5), .ref (d 6), .ref (d 7), .ref (d 8), .int (nI (S.2.2.2.length))])), (d 1, .inl (cI, (804, .inl K))), (d 2, .inl (cI, (804, .inl V'))), (d 3, .inl (cI, (4, .inl sz))), (d 4, .inl (cI, (3, .inl cb))), (d 5, .inl (cI, (3, .inl ck))), (d 6, .inl (cI, (3, .inl ca))), (d 7, .inl (cZ, (3, .inl it))), (d 8, .inl (cI, (6000, .inl ou)))] → va_S (Ao d 9) s.heap H locs → ∀ ls : Array Slot, lv_has ls 4 [(3, .int (nI (i))), (0, .ref (d 0)), (1, .int (nI (b))), (2, .int (v))] → W p l e (rmN 4) s m [.ref (d 0), .int (nI (b)), .int (v)].toArray below meth c H locs 0 0 (MQ below (Wq (some (.int (nI (S.1 b).length))) (fun H => MdAt D cI cZ d (clB (upB S b (adA (S.1 b) v (S.1 b).length)) b (-1)) (nI 0) H) (Ao d 9)) [.ref (d 0), .int (nI (b)), .int (v)].toArray s 0 0 (Ao d 9)) (F0 m 26 ls []) from KK ((S.1 b).length + 1) 0 V (by omega) (by omega) (by rw [show va_up S.1 b (adA (S.1 b) v 0) = S.1 from congrArg Prod.fst (upB_id S b)]; exact hMB) s.heap [] hP hD hS ls (lv_sub hl [0, 1, 2, 3] rfl)
      clear hP hD hS hl
      intro n
      induction n with
      | zero => intro i V' h1 h2; omega
      | succ n ih =>
        intro i V' h1 h2 hMB2 H locs hP hD hS ls hl
        refine lv_iload_n hx hb dX5_addToAll_26 rfl (lv_at hl 0 rfl) ?_
        refine lv_aload_n hx hb dX5_addToAll_27 rfl (lv_at hl 1 rfl) ?_
        refine gf_X5_16 hx hb hG hown hK hP 0 rfl rfl dX5_addToAll_28 ?_
        refine lv_iload_n hx hb dX5_addToAll_31 rfl (lv_at hl 2 rfl) ?_
        refine x_iald hx hb hK hP 3 0 rfl rfl (by omega) (by decide) dX5_addToAll_32 ?_
        rw [(hMB (b) (by omega)).1]
        refine x_cmp_ge (tgt := 58) hx hb dX5_addToAll_33 (by decide) (by omega) (by omega) (fun c1 => ?_) (fun c1 => ?_)
        · have ei : i = (S.1 b).length := by omega
          subst ei
          refine lv_aload_n hx hb dX5_addToAll_58 rfl (lv_at hl 1 rfl) ?_
          refine lv_iload_n hx hb dX5_addToAll_59 rfl (lv_at hl 2 rfl) ?_
          refine lv_iconst (v := (-1)) hx hb dX5_addToAll_60 (by decide) ?_
          have hB0 : MdAt D cI cZ d (upB S b (adA (S.1 b) v (S.1 b).length)) th H := ⟨K, V', sz, cb, ck, ca, it, ou, hP, hMB2, hMC, hMO⟩
          refine k2_V hx hb hml hown hG cs_X5_62 (c5_closes l D cI cZ d (upB S b (adA (S.1 b) v (S.1 b).length)) th b (-1) (by omega) hCC hap) (by decide) (pzV hK rfl hB0.rc hB0) rfl hl.1 rfl (Nat.le_of_ble_eq_true rfl) dX5_addToAll_61 ⟨Nat.zero_le _, Nat.zero_le _⟩ rfl hS (fun q h => h) (fun H locs hB0 hz hk hS => ?_)
          refine lv_aload_n hx hb dX5_addToAll_64 rfl (lv_at hl 1 rfl) ?_
          refine lv_aload_n hx hb dX5_addToAll_65 rfl (lv_at hl 1 rfl) ?_
          obtain ⟨K, V, sz, cb, ck, ca, it, ou, hP, hMB, hMC, hMO⟩ := id hB0
          have hMB : MdB (upB S b (adA (S.1 b) v (S.1 b).length)).1 K V sz := hMB
          have hP : va_P D vwCl [(d 0, .inr (5, [.ref (d 1), .ref (d 2), .ref (d 3), .int (nI (S.2.1)), .int (th), .ref (d 4), .ref (d 5), .ref (d 6), .ref (d 7), .ref (d 8), .int (nI (S.2.2.2.length))])), (d 1, .inl (cI, (804, .inl K))), (d 2, .inl (cI, (804, .inl V))), (d 3, .inl (cI, (4, .inl sz))), (d 4, .inl (cI, (3, .inl cb))), (d 5, .inl (cI, (3, .inl ck))), (d 6, .inl (cI, (3, .inl ca))), (d 7, .inl (cZ, (3, .inl it))), (d 8, .inl (cI, (6000, .inl ou)))] H := hP
          have hD : va_D (Ao d 9) [(d 0, .inr (5, [.ref (d 1), .ref (d 2), .ref (d 3), .int (nI (S.2.1)), .int (th), .ref (d 4), .ref (d 5), .ref (d 6), .ref (d 7), .ref (d 8), .int (nI (S.2.2.2.length))])), (d 1, .inl (cI, (804, .inl K))), (d 2, .inl (cI, (804, .inl V))), (d 3, .inl (cI, (4, .inl sz))), (d 4, .inl (cI, (3, .inl cb))), (d 5, .inl (cI, (3, .inl ck))), (d 6, .inl (cI, (3, .inl ca))), (d 7, .inl (cZ, (3, .inl it))), (d 8, .inl (cI, (6000, .inl ou)))] := hap.D9
          refine gf_X5_16 hx hb hG hown hK hP 0 rfl rfl dX5_addToAll_66 ?_
          refine lv_iload_n hx hb dX5_addToAll_69 rfl (lv_at hl 2 rfl) ?_
          refine x_iald hx hb hK hP 3 0 rfl rfl (by omega) (by decide) dX5_addToAll_70 ?_
          rw [(hMB (b) (by omega)).1]
          refine k2_V hx hb hml hown hG cs_X5_65 (c5_told l D cI cZ d (clB (upB S b (adA (S.1 b) v (S.1 b).length)) b (-1)) th (nI (((upB S b (adA (S.1 b) v (S.1 b).length)).1 b).length)) hap) (by decide) (pzV hK rfl hB0.rc hB0) rfl hl.1 rfl (Nat.le_of_ble_eq_true rfl) dX5_addToAll_71 ⟨Nat.zero_le _, Nat.zero_le _⟩ rfl hS (fun q h => h) (fun H locs hB0 hz hk hS => ?_)
          exact w_i (PB := (fun H => MdAt D cI cZ d (clB (upB S b (adA (S.1 b) v (S.1 b).length)) b (-1)) (nI 0) H)) (by rw [upB_at, adA_len]) hB0 hS hx hb hr hlocks dX5_addToAll_74
        · refine lv_aload_n hx hb dX5_addToAll_36 rfl (lv_at hl 1 rfl) ?_
          refine gf_X5_13 hx hb hG hown hK hP 0 rfl rfl dX5_addToAll_37 ?_
          refine lv_sipush (v := nI 201) hx hb dX5_addToAll_40 (by decide) ?_
          refine lv_iload_n hx hb dX5_addToAll_43 rfl (lv_at hl 2 rfl) ?_
          refine x_imul (v := nI (201 * b)) hx hb dX5_addToAll_44 (pk_mul _ _) ?_
          refine lv_iload_n hx hb dX5_addToAll_45 rfl (lv_at hl 0 rfl) ?_
          refine x_iadd (v := nI ((201 * b) + i)) hx hb dX5_addToAll_46 (nI_add _ _) ?_
          refine lv_dup2_11 hx hb dX5_addToAll_47 rfl rfl ?_
          refine x_iald hx hb hK hP 2 0 rfl rfl (by omega) (by decide) dX5_addToAll_48 ?_
          rw [show V' ((201 * b) + i) = vf (S.1 b) i from by
            have h := ((hMB2 b hb4).2.2 i (by rw [up_at, if_pos rfl, adA_len]; omega)).2
            rw [up_at, if_pos rfl, adA_vf _ _ _ _ (by omega), if_neg (by omega)] at h
            exact h]
          refine lv_iload_n hx hb dX5_addToAll_49 rfl (lv_at hl 3 rfl) ?_
          refine x_iadd (v := (vf (S.1 b) i) + v) hx hb dX5_addToAll_50 rfl ?_
          refine x_iast hx hb hK hP hD hS 2 0 rfl rfl (by omega) (by decide) dX5_addToAll_51 (fun H locs hP hD hS => ?_)
          have hP : va_P D vwCl [(d 0, .inr (5, [.ref (d 1), .ref (d 2), .ref (d 3), .int (nI (S.2.1)), .int (th), .ref (d 4), .ref (d 5), .ref (d 6), .ref (d 7), .ref (d 8), .int (nI (S.2.2.2.length))])), (d 1, .inl (cI, (804, .inl K))), (d 2, .inl (cI, (804, .inl (upd V' ((201 * b) + i) ((vf (S.1 b) i) + v))))), (d 3, .inl (cI, (4, .inl sz))), (d 4, .inl (cI, (3, .inl cb))), (d 5, .inl (cI, (3, .inl ck))), (d 6, .inl (cI, (3, .inl ca))), (d 7, .inl (cZ, (3, .inl it))), (d 8, .inl (cI, (6000, .inl ou)))] H := hP
          have hD : va_D (Ao d 9) [(d 0, .inr (5, [.ref (d 1), .ref (d 2), .ref (d 3), .int (nI (S.2.1)), .int (th), .ref (d 4), .ref (d 5), .ref (d 6), .ref (d 7), .ref (d 8), .int (nI (S.2.2.2.length))])), (d 1, .inl (cI, (804, .inl K))), (d 2, .inl (cI, (804, .inl (upd V' ((201 * b) + i) ((vf (S.1 b) i) + v))))), (d 3, .inl (cI, (4, .inl sz))), (d 4, .inl (cI, (3, .inl cb))), (d 5, .inl (cI, (3, .inl ck))), (d 6, .inl (cI, (3, .inl ca))), (d 7, .inl (cZ, (3, .inl it))), (d 8, .inl (cI, (6000, .inl ou)))] := hD
          refine x_iinc (k := 0) (lv' := [(3, .int (nI (i + 1))), (0, .ref (d 0)), (1, .int (nI (b))), (2, .int (v))]) hx hb dX5_addToAll_52 hl rfl (by decide) rfl (fun ls hl => ?_)
          refine lv_goto (tgt := 26) hx hb dX5_addToAll_55 (by decide) ?_
          exact ih (i + 1) _ (by omega) (by omega) (hMB2.ad hb4 (by omega)) H locs hP hD hS ls (lv_sub hl [0, 1, 2, 3] rfl)
  · skip
    have e9 : sp_addToAll S x v = (1, 0, S) := by simp [sp_addToAll, hbk]
    rw [e9]
    refine m_start (by decide) (Nat.le_of_ble_eq_true rfl) ?_
    intro p e s m below meth c hx hb hr hG hown hlocks hml hB ls hl
    have hl : lv_has ls 4 [(0, .ref (d 0)), (1, .int (x)), (2, .int (v))] := hl
    obtain ⟨hB0, hK⟩ := hB
    have hS : va_S (Ao d 9) s.heap s.heap [] := va_S.rf
    refine lv_iload_n hx hb dX5_addToAll_0 rfl (lv_at hl 1 rfl) ?_
    refine k1_S hx hb hml hown hG cs_X5_68 (by have h := c5_isBook l D x; rw [hno] at h; exact h) (by decide) (pzS (hK.sub (tys' := []) [] rfl) trivial) rfl hl.1 rfl (Nat.le_of_ble_eq_true rfl) dX5_addToAll_1 ⟨Nat.zero_le _, Nat.zero_le _⟩ rfl ?_
    refine x_ifb_ne (tgt := 13) hx hb dX5_addToAll_4 (by decide) (fun zc1 => False.elim (by first | exact absurd zc1 (by decide) | omega | (simp_all; done))) (fun zc1 => ?_)
    refine lv_aload_n hx hb dX5_addToAll_7 rfl (lv_at hl 0 rfl) ?_
    refine lv_iconst (v := nI 1) hx hb dX5_addToAll_8 (by decide) ?_
    refine k2_V hx hb hml hown hG cs_X5_58 (c5_refuse l D cI cZ d S th 1 hap) (by decide) (pzV hK rfl hB0.rc hB0) rfl hl.1 rfl (Nat.le_of_ble_eq_true rfl) dX5_addToAll_9 ⟨Nat.zero_le _, Nat.zero_le _⟩ rfl hS (fun q h => h) (fun H locs hB0 hz hk hS => ?_)
    exact w_i (PB := (fun H => MdAt D cI cZ d S (nI 1) H)) rfl hB0 hS hx hb hr hlocks dX5_addToAll_12
set_option maxHeartbeats 4000000 in
set_option maxRecDepth 100000 in
theorem m_fill (l : Launch) (D : va_G) (cI cZ : ClassId) (d : Nat → Nat) (S : St) (th : Int32) (x from_ step many : Int32) (hI : Inv S) (hap : Ap d 9) : Met l yX5_fill (ws_ yX5_fill cX5_fill 7 (some .int)) (rmN 4) (va_Pc [.ref (d 0), .int x, .int from_, .int step, .int many] (pz D [(cI, .int), (cZ, .boolean)] (fun H => MdAt D cI cZ d S th H))) (Wq (some (.int (sp_fill S x from_ step many).2.1)) (fun H => MdAt D cI cZ d (sp_fill S x from_ step many).2.2 (nI (sp_fill S x from_ step many).1) H) (Ao d 9)) 0 0 (Ao d 9) := by
  have hbd2 : S.2.1 ≤ 40 := hI.2.2.2.1
  have hCC : ∀ cu, cu < 3 → ∀ y, S.2.2.1 cu = some y → y.1 < 4 := fun cu hcu y hy => by have h := hI.2.2.2.2.1 cu hcu; rw [hy] at h; exact h.1
  rcases bkn_cases 4 (by decide) x with ⟨b, hb4, rfl, hbk⟩ | ⟨hbk, hno⟩
  · have hN := hI.1 b hb4
    rcases bkn_cases 61 (by decide) many with ⟨k, hk6, rfl, hbm⟩ | ⟨hbm, hnom⟩
    · by_cases h3 : b = 3
      · subst h3
        have e9 : sp_fill S (nI (3)) from_ step (nI (k)) = (2, 0, S) := by simp [sp_fill, hbk, hbm]
        rw [e9]
        refine m_start (by decide) (Nat.le_of_ble_eq_true rfl) ?_
        intro p e s m below meth c hx hb hr hG hown hlocks hml hB ls hl
        have hl : lv_has ls 7 [(0, .ref (d 0)), (1, .int (nI (3))), (2, .int (from_)), (3, .int (step)), (4, .int (nI (k)))] := hl
        obtain ⟨hB0, hK⟩ := hB
        have hS : va_S (Ao d 9) s.heap s.heap [] := va_S.rf
        refine lv_iload_n hx hb dX5_fill_0 rfl (lv_at hl 1 rfl) ?_
        refine k1_S hx hb hml hown hG cs_X5_68 (by have h := c5_isBook l D (nI (3)); rw [rch_in (by omega) (by decide)] at h; exact h) (by decide) (pzS (hK.sub (tys' := []) [] rfl) trivial) rfl hl.1 rfl (Nat.le_of_ble_eq_true rfl) dX5_fill_1 ⟨Nat.zero_le _, Nat.zero_le _⟩ rfl ?_
        refine x_ifb_ne (tgt := 13) hx hb dX5_fill_4 (by decide) (fun zc1 => ?_) (fun zc1 => False.elim (by first | exact absurd zc1 (by decide) | omega | (simp_all; done)))
        refine lv_iload_n hx hb dX5_fill_13 rfl (lv_at hl 1 rfl) ?_
        refine lv_iconst (v := nI 3) hx hb dX5_fill_14 (by decide) ?_
        refine x_cmp_eq (tgt := 29) hx hb dX5_fill_15 (by decide) (by omega) (by omega) (fun zc2 => ?_) (fun zc2 => False.elim (by first | exact absurd zc2 (by decide) | omega | (simp_all; done)))
        refine lv_aload_n hx hb dX5_fill_29 rfl (lv_at hl 0 rfl) ?_
        refine lv_iconst (v := nI 2) hx hb dX5_fill_30 (by decide) ?_
        refine k2_V hx hb hml hown hG cs_X5_58 (c5_refuse l D cI cZ d S th 2 hap) (by decide) (pzV hK rfl hB0.rc hB0) rfl hl.1 rfl (Nat.le_of_ble_eq_true rfl) dX5_fill_31 ⟨Nat.zero_le _, Nat.zero_le _⟩ rfl hS (fun q h => h) (fun H locs hB0 hz hk hS => ?_)
        exact w_i (PB := (fun H => MdAt D cI cZ d S (nI 2) H)) rfl hB0 hS hx hb hr hlocks dX5_fill_34
      · by_cases h2 : b = 2
        · skip
          have e9 : sp_fill S (nI (b)) from_ step (nI (k)) = (0, nI (fiA (lgO b) S.2.1 (S.1 b) from_ step k).1.length, clB (upB S b (fiA (lgO b) S.2.1 (S.1 b) from_ step k).1) b (-1)) := by unfold sp_fill; rw [hbk, hbm]; exact (if_neg h3).trans (if_neg (fun z => z.1 h2))
          rw [e9]
          refine m_start (by decide) (Nat.le_of_ble_eq_true rfl) ?_
          intro p e s m below meth c hx hb hr hG hown hlocks hml hB ls hl
          have hl : lv_has ls 7 [(0, .ref (d 0)), (1, .int (nI (b))), (2, .int (from_)), (3, .int (step)), (4, .int (nI (k)))] := hl
          obtain ⟨hB0, hK⟩ := hB
          have hS : va_S (Ao d 9) s.heap s.heap [] := va_S.rf
          have hfl : ∀ i, i ≤ k → (fiA (lgO b) S.2.1 (S.1 b) from_ step i).1.length ≤ 200 := fun i hi => by
            subst h2; have h := fiA_len_b (bd := S.2.1) from_ step hI.2.1 i; exact Nat.le_trans h (by omega)
          refine lv_iload_n hx hb dX5_fill_0 rfl (lv_at hl 1 rfl) ?_
          refine k1_S hx hb hml hown hG cs_X5_68 (by have h := c5_isBook l D (nI (b)); rw [rch_in (by omega) (by decide)] at h; exact h) (by decide) (pzS (hK.sub (tys' := []) [] rfl) trivial) rfl hl.1 rfl (Nat.le_of_ble_eq_true rfl) dX5_fill_1 ⟨Nat.zero_le _, Nat.zero_le _⟩ rfl ?_
          refine x_ifb_ne (tgt := 13) hx hb dX5_fill_4 (by decide) (fun zc1 => ?_) (fun zc1 => False.elim (by first | exact absurd zc1 (by decide) | omega | (simp_all; done)))
          refine lv_iload_n hx hb dX5_fill_13 rfl (lv_at hl 1 rfl) ?_
          refine lv_iconst (v := nI 3) hx hb dX5_fill_14 (by decide) ?_
          refine x_cmp_eq (tgt := 29) hx hb dX5_fill_15 (by decide) (by omega) (by omega) (fun zc2 => False.elim (by first | omega | contradiction | exact absurd zc2 (m1_ne _ (by omega)) | exact absurd zc2 (by decide) | exact absurd (Eq.symm zc2) (m1_ne _ (by omega)) | (simp_all; done))) (fun zc2 => ?_)
          refine lv_iload hx hb dX5_fill_18 (lv_at hl 4 rfl) ?_
          refine lv_iconst (v := nI 0) hx hb dX5_fill_20 (by decide) ?_
          refine lv_bipush (v := nI 60) hx hb dX5_fill_21 (by decide) ?_
          refine k1_S hx hb hml hown hG cs_X5_42 (by have h := c5_in l D (nI (k)) (nI (0)) (nI (60)); rw [show inb (nI k) (nI 0) (nI 60) = true from by rw [show (nI 0 : Int32) = 0 from rfl, inb_rch (n := 61) (by decide) _ (nI 60) (by decide)]; exact rch_in hk6 (by decide)] at h; exact h) (by decide) (pzS (hK.sub (tys' := []) [] rfl) trivial) rfl hl.1 rfl (Nat.le_of_ble_eq_true rfl) dX5_fill_23 ⟨Nat.zero_le _, Nat.zero_le _⟩ rfl ?_
          refine x_ifb_ne (tgt := 35) hx hb dX5_fill_26 (by decide) (fun zc3 => ?_) (fun zc3 => False.elim (by first | exact absurd zc3 (by decide) | omega | (simp_all; done)))
          refine lv_iload_n hx hb dX5_fill_35 rfl (lv_at hl 1 rfl) ?_
          refine k1_S hx hb hml hown hG cs_X5_86 (by have h := c5_isPlain l D (nI (b)); rw [show rch 2 (nI b) = false from rch_hi (nI_le (by omega) (by omega))] at h; exact h) (by decide) (pzS (hK.sub (tys' := []) [] rfl) trivial) rfl hl.1 rfl (Nat.le_of_ble_eq_true rfl) dX5_fill_36 ⟨Nat.zero_le _, Nat.zero_le _⟩ rfl ?_
          refine x_ifb_eq (tgt := 60) hx hb dX5_fill_39 (by decide) (fun zc4 => ?_) (fun zc4 => False.elim (by first | exact absurd zc4 (by decide) | omega | (simp_all; done)))
          refine lv_iload_n hx hb dX5_fill_60 rfl (lv_at hl 2 rfl) ?_
          refine lv_istore (lv' := [(5, .int (from_)), (0, .ref (d 0)), (1, .int (nI (b))), (2, .int (from_)), (3, .int (step)), (4, .int (nI (k)))]) hx hb dX5_fill_61 hl (by decide) rfl (fun ls hl => ?_)
          refine lv_iconst (v := nI 0) hx hb dX5_fill_63 (by decide) ?_
          refine lv_istore (lv' := [(6, .int (nI (0))), (5, .int (from_)), (0, .ref (d 0)), (1, .int (nI (b))), (2, .int (from_)), (3, .int (step)), (4, .int (nI (k)))]) hx hb dX5_fill_64 hl (by decide) rfl (fun ls hl => ?_)
          suffices KK : ∀ (n i : Nat), k < i + n → i ≤ k → ∀ (H : Heap) (locs : List Loc), MdAt D cI cZ d (upB S b (fiA (lgO b) S.2.1 (S.1 b) from_ step i).1) th H → va_S (Ao d 9) s.heap H locs → ∀ ls : Array Slot, lv_has ls 7 [(6, .int (nI (i))), (5, .int ((fiA (lgO b) S.2.1 (S.1 b) from_ step i).2)), (0, .ref (d 0)), (1, .int (nI (b))), (2, .int (from_)), (3, .int (step)), (4, .int (nI (k)))] → W p l e (rmN 4) s m [.ref (d 0), .int (nI (b)), .int (from_), .int (step), .int (nI (k))].toArray below meth c H locs 0 0 (MQ below (Wq (some (.int (nI (fiA (lgO b) S.2.1 (S.1 b) from_ step k).1.length))) (fun H => MdAt D cI cZ d (clB (upB S b (fiA (lgO b) S.2.1 (S.1 b) from_ step k).1) b (-1)) (nI 0) H) (Ao d 9)) [.ref (d 0), .int (nI (b)), .int (from_), .int (step), .int (nI (k))].toArray s 0 0 (Ao d 9)) (F0 m 66 ls []) from KK (k + 1) 0 (by omega) (by omega) s.heap [] (by rw [show (upB S b (fiA (lgO b) S.2.1 (S.1 b) from_ step 0).1) = S from upB_id S b]; exact hB0) hS ls (lv_sub hl [0, 1, 2, 3, 4, 5, 6] rfl)
          clear hB0 hS hl
          intro n
          induction n with
          | zero => intro i h1 h2; omega
          | succ n ih =>
            intro i h1 h2 H locs hB0 hS ls hl
            refine lv_iload hx hb dX5_fill_66 (lv_at hl 0 rfl) ?_
            refine lv_iload hx hb dX5_fill_68 (lv_at hl 6 rfl) ?_
            refine x_cmp_ge (tgt := 93) hx hb dX5_fill_70 (by decide) (by omega) (by omega) (fun c1 => ?_) (fun c1 => ?_)
            · have ei : i = k := by omega
              subst ei
              refine lv_aload_n hx hb dX5_fill_93 rfl (lv_at hl 2 rfl) ?_
              refine lv_iload_n hx hb dX5_fill_94 rfl (lv_at hl 3 rfl) ?_
              refine lv_iconst (v := (-1)) hx hb dX5_fill_95 (by decide) ?_
              refine k2_V hx hb hml hown hG cs_X5_62 (c5_closes l D cI cZ d (upB S b (fiA (lgO b) S.2.1 (S.1 b) from_ step i).1) th b (-1) (by omega) hCC hap) (by decide) (pzV hK rfl hB0.rc hB0) rfl hl.1 rfl (Nat.le_of_ble_eq_true rfl) dX5_fill_96 ⟨Nat.zero_le _, Nat.zero_le _⟩ rfl hS (fun q h => h) (fun H locs hB0 hz hk hS => ?_)
              refine lv_aload_n hx hb dX5_fill_99 rfl (lv_at hl 2 rfl) ?_
              refine lv_aload_n hx hb dX5_fill_100 rfl (lv_at hl 2 rfl) ?_
              obtain ⟨K, V, sz, cb, ck, ca, it, ou, hP, hMB, hMC, hMO⟩ := id hB0
              have hMB : MdB (upB S b (fiA (lgO b) S.2.1 (S.1 b) from_ step i).1).1 K V sz := hMB
              have hP : va_P D vwCl [(d 0, .inr (5, [.ref (d 1), .ref (d 2), .ref (d 3), .int (nI (S.2.1)), .int (th), .ref (d 4), .ref (d 5), .ref (d 6), .ref (d 7), .ref (d 8), .int (nI (S.2.2.2.length))])), (d 1, .inl (cI, (804, .inl K))), (d 2, .inl (cI, (804, .inl V))), (d 3, .inl (cI, (4, .inl sz))), (d 4, .inl (cI, (3, .inl cb))), (d 5, .inl (cI, (3, .inl ck))), (d 6, .inl (cI, (3, .inl ca))), (d 7, .inl (cZ, (3, .inl it))), (d 8, .inl (cI, (6000, .inl ou)))] H := hP
              have hD : va_D (Ao d 9) [(d 0, .inr (5, [.ref (d 1), .ref (d 2), .ref (d 3), .int (nI (S.2.1)), .int (th), .ref (d 4), .ref (d 5), .ref (d 6), .ref (d 7), .ref (d 8), .int (nI (S.2.2.2.length))])), (d 1, .inl (cI, (804, .inl K))), (d 2, .inl (cI, (804, .inl V))), (d 3, .inl (cI, (4, .inl sz))), (d 4, .inl (cI, (3, .inl cb))), (d 5, .inl (cI, (3, .inl ck))), (d 6, .inl (cI, (3, .inl ca))), (d 7, .inl (cZ, (3, .inl it))), (d 8, .inl (cI, (6000, .inl ou)))] := hap.D9
              refine gf_X5_16 hx hb hG hown hK hP 0 rfl rfl dX5_fill_101 ?_
              refine lv_iload_n hx hb dX5_fill_104 rfl (lv_at hl 3 rfl) ?_
              refine x_iald hx hb hK hP 3 0 rfl rfl (by omega) (by decide) dX5_fill_105 ?_
              rw [(hMB (b) (by omega)).1]
              refine k2_V hx hb hml hown hG cs_X5_65 (c5_told l D cI cZ d (clB (upB S b (fiA (lgO b) S.2.1 (S.1 b) from_ step i).1) b (-1)) th (nI (((upB S b (fiA (lgO b) S.2.1 (S.1 b) from_ step i).1).1 b).length)) hap) (by decide) (pzV hK rfl hB0.rc hB0) rfl hl.1 rfl (Nat.le_of_ble_eq_true rfl) dX5_fill_106 ⟨Nat.zero_le _, Nat.zero_le _⟩ rfl hS (fun q h => h) (fun H locs hB0 hz hk hS => ?_)
              exact w_i (PB := (fun H => MdAt D cI cZ d (clB (upB S b (fiA (lgO b) S.2.1 (S.1 b) from_ step i).1) b (-1)) (nI 0) H)) (by rw [upB_at]) hB0 hS hx hb hr hlocks dX5_fill_109
            · refine lv_aload_n hx hb dX5_fill_73 rfl (lv_at hl 2 rfl) ?_
              refine lv_iload_n hx hb dX5_fill_74 rfl (lv_at hl 3 rfl) ?_
              refine lv_iload hx hb dX5_fill_75 (lv_at hl 1 rfl) ?_
              refine lv_iconst (v := nI 0) hx hb dX5_fill_77 (by decide) ?_
              refine k2_V hx hb hml hown hG cs_X5_79 (c5_puts l D cI cZ d (upB S b (fiA (lgO b) S.2.1 (S.1 b) from_ step i).1) th b ((fiA (lgO b) S.2.1 (S.1 b) from_ step i).2) (nI (0)) (by omega) hap (by rw [upB_at]; exact hfl i (by omega)) (by show S.2.1 ≤ 200; omega)) (by decide) (pzV hK rfl hB0.rc hB0) rfl hl.1 rfl (Nat.le_of_ble_eq_true rfl) dX5_fill_78 ⟨Nat.zero_le _, Nat.zero_le _⟩ rfl hS (fun q h => h) (fun H locs hB0 hz hk hS => ?_)
              have hB0 : MdAt D cI cZ d (upB S b (fiA (lgO b) S.2.1 (S.1 b) from_ step (i + 1)).1) th H := by rw [upB_up, upB_at] at hB0; exact hB0
              refine lv_iload hx hb dX5_fill_81 (lv_at hl 1 rfl) ?_
              refine lv_iload_n hx hb dX5_fill_83 rfl (lv_at hl 5 rfl) ?_
              refine x_iadd (v := ((fiA (lgO b) S.2.1 (S.1 b) from_ step i).2) + step) hx hb dX5_fill_84 rfl ?_
              refine lv_istore (lv' := [(5, .int (((fiA (lgO b) S.2.1 (S.1 b) from_ step i).2) + step)), (6, .int (nI (i))), (0, .ref (d 0)), (1, .int (nI (b))), (2, .int (from_)), (3, .int (step)), (4, .int (nI (k)))]) hx hb dX5_fill_85 hl (by decide) rfl (fun ls hl => ?_)
              refine x_iinc (k := 1) (lv' := [(6, .int (nI (i + 1))), (5, .int (((fiA (lgO b) S.2.1 (S.1 b) from_ step i).2) + step)), (0, .ref (d 0)), (1, .int (nI (b))), (2, .int (from_)), (3, .int (step)), (4, .int (nI (k)))]) hx hb dX5_fill_87 hl rfl (by decide) rfl (fun ls hl => ?_)
              refine lv_goto (tgt := 66) hx hb dX5_fill_90 (by decide) ?_
              exact ih (i + 1) (by omega) (by omega) H locs hB0 hS ls (lv_sub hl [0, 1, 2, 3, 4, 5, 6] rfl)
        · by_cases h140 : 140 < (S.1 b).length
          · skip
            have e9 : sp_fill S (nI (b)) from_ step (nI (k)) = (3, 0, S) := by simp [sp_fill, hbk, hbm, h3, h2, h140]
            rw [e9]
            refine m_start (by decide) (Nat.le_of_ble_eq_true rfl) ?_
            intro p e s m below meth c hx hb hr hG hown hlocks hml hB ls hl
            have hl : lv_has ls 7 [(0, .ref (d 0)), (1, .int (nI (b))), (2, .int (from_)), (3, .int (step)), (4, .int (nI (k)))] := hl
            obtain ⟨hB0, hK⟩ := hB
            have hS : va_S (Ao d 9) s.heap s.heap [] := va_S.rf
            refine lv_iload_n hx hb dX5_fill_0 rfl (lv_at hl 1 rfl) ?_
            refine k1_S hx hb hml hown hG cs_X5_68 (by have h := c5_isBook l D (nI (b)); rw [rch_in (by omega) (by decide)] at h; exact h) (by decide) (pzS (hK.sub (tys' := []) [] rfl) trivial) rfl hl.1 rfl (Nat.le_of_ble_eq_true rfl) dX5_fill_1 ⟨Nat.zero_le _, Nat.zero_le _⟩ rfl ?_
            refine x_ifb_ne (tgt := 13) hx hb dX5_fill_4 (by decide) (fun zc1 => ?_) (fun zc1 => False.elim (by first | exact absurd zc1 (by decide) | omega | (simp_all; done)))
            refine lv_iload_n hx hb dX5_fill_13 rfl (lv_at hl 1 rfl) ?_
            refine lv_iconst (v := nI 3) hx hb dX5_fill_14 (by decide) ?_
            refine x_cmp_eq (tgt := 29) hx hb dX5_fill_15 (by decide) (by omega) (by omega) (fun zc2 => False.elim (by first | omega | contradiction | exact absurd zc2 (m1_ne _ (by omega)) | exact absurd zc2 (by decide) | exact absurd (Eq.symm zc2) (m1_ne _ (by omega)) | (simp_all; done))) (fun zc2 => ?_)
            refine lv_iload hx hb dX5_fill_18 (lv_at hl 4 rfl) ?_
            refine lv_iconst (v := nI 0) hx hb dX5_fill_20 (by decide) ?_
            refine lv_bipush (v := nI 60) hx hb dX5_fill_21 (by decide) ?_
            refine k1_S hx hb hml hown hG cs_X5_42 (by have h := c5_in l D (nI (k)) (nI (0)) (nI (60)); rw [show inb (nI k) (nI 0) (nI 60) = true from by rw [show (nI 0 : Int32) = 0 from rfl, inb_rch (n := 61) (by decide) _ (nI 60) (by decide)]; exact rch_in hk6 (by decide)] at h; exact h) (by decide) (pzS (hK.sub (tys' := []) [] rfl) trivial) rfl hl.1 rfl (Nat.le_of_ble_eq_true rfl) dX5_fill_23 ⟨Nat.zero_le _, Nat.zero_le _⟩ rfl ?_
            refine x_ifb_ne (tgt := 35) hx hb dX5_fill_26 (by decide) (fun zc3 => ?_) (fun zc3 => False.elim (by first | exact absurd zc3 (by decide) | omega | (simp_all; done)))
            refine lv_iload_n hx hb dX5_fill_35 rfl (lv_at hl 1 rfl) ?_
            refine k1_S hx hb hml hown hG cs_X5_86 (by have h := c5_isPlain l D (nI (b)); rw [rch_in (by omega) (by decide)] at h; exact h) (by decide) (pzS (hK.sub (tys' := []) [] rfl) trivial) rfl hl.1 rfl (Nat.le_of_ble_eq_true rfl) dX5_fill_36 ⟨Nat.zero_le _, Nat.zero_le _⟩ rfl ?_
            refine x_ifb_eq (tgt := 60) hx hb dX5_fill_39 (by decide) (fun zc4 => False.elim (by first | exact absurd zc4 (by decide) | omega | (simp_all; done))) (fun zc4 => ?_)
            refine lv_aload_n hx hb dX5_fill_42 rfl (lv_at hl 0 rfl) ?_
            obtain ⟨K, V, sz, cb, ck, ca, it, ou, hP, hMB, hMC, hMO⟩ := id hB0
            have hP : va_P D vwCl [(d 0, .inr (5, [.ref (d 1), .ref (d 2), .ref (d 3), .int (nI (S.2.1)), .int (th), .ref (d 4), .ref (d 5), .ref (d 6), .ref (d 7), .ref (d 8), .int (nI (S.2.2.2.length))])), (d 1, .inl (cI, (804, .inl K))), (d 2, .inl (cI, (804, .inl V))), (d 3, .inl (cI, (4, .inl sz))), (d 4, .inl (cI, (3, .inl cb))), (d 5, .inl (cI, (3, .inl ck))), (d 6, .inl (cI, (3, .inl ca))), (d 7, .inl (cZ, (3, .inl it))), (d 8, .inl (cI, (6000, .inl ou)))] s.heap := hP
            have hD : va_D (Ao d 9) [(d 0, .inr (5, [.ref (d 1), .ref (d 2), .ref (d 3), .int (nI (S.2.1)), .int (th), .ref (d 4), .ref (d 5), .ref (d 6), .ref (d 7), .ref (d 8), .int (nI (S.2.2.2.length))])), (d 1, .inl (cI, (804, .inl K))), (d 2, .inl (cI, (804, .inl V))), (d 3, .inl (cI, (4, .inl sz))), (d 4, .inl (cI, (3, .inl cb))), (d 5, .inl (cI, (3, .inl ck))), (d 6, .inl (cI, (3, .inl ca))), (d 7, .inl (cZ, (3, .inl it))), (d 8, .inl (cI, (6000, .inl ou)))] := hap.D9
            refine gf_X5_16 hx hb hG hown hK hP 0 rfl rfl dX5_fill_43 ?_
            refine lv_iload_n hx hb dX5_fill_46 rfl (lv_at hl 1 rfl) ?_
            refine x_iald hx hb hK hP 3 0 rfl rfl (by omega) (by decide) dX5_fill_47 ?_
            rw [(hMB (b) (by omega)).1]
            refine lv_sipush (v := nI 140) hx hb dX5_fill_48 (by decide) ?_
            refine x_cmp_le (tgt := 60) hx hb dX5_fill_51 (by decide) (by omega) (by omega) (fun zc5 => False.elim (by first | omega | contradiction | exact absurd zc5 (m1_ne _ (by omega)) | exact absurd zc5 (by decide) | exact absurd (Eq.symm zc5) (m1_ne _ (by omega)) | (simp_all; done))) (fun zc5 => ?_)
            refine lv_aload_n hx hb dX5_fill_54 rfl (lv_at hl 0 rfl) ?_
            refine lv_iconst (v := nI 3) hx hb dX5_fill_55 (by decide) ?_
            refine k2_V hx hb hml hown hG cs_X5_58 (c5_refuse l D cI cZ d S th 3 hap) (by decide) (pzV hK rfl hB0.rc hB0) rfl hl.1 rfl (Nat.le_of_ble_eq_true rfl) dX5_fill_56 ⟨Nat.zero_le _, Nat.zero_le _⟩ rfl hS (fun q h => h) (fun H locs hB0 hz hk hS => ?_)
            exact w_i (PB := (fun H => MdAt D cI cZ d S (nI 3) H)) rfl hB0 hS hx hb hr hlocks dX5_fill_59
          · skip
            have e9 : sp_fill S (nI (b)) from_ step (nI (k)) = (0, nI (fiA (lgO b) S.2.1 (S.1 b) from_ step k).1.length, clB (upB S b (fiA (lgO b) S.2.1 (S.1 b) from_ step k).1) b (-1)) := by unfold sp_fill; rw [hbk, hbm]; exact (if_neg h3).trans (if_neg (fun z => absurd z.2 (by omega)))
            rw [e9]
            refine m_start (by decide) (Nat.le_of_ble_eq_true rfl) ?_
            intro p e s m below meth c hx hb hr hG hown hlocks hml hB ls hl
            have hl : lv_has ls 7 [(0, .ref (d 0)), (1, .int (nI (b))), (2, .int (from_)), (3, .int (step)), (4, .int (nI (k)))] := hl
            obtain ⟨hB0, hK⟩ := hB
            have hS : va_S (Ao d 9) s.heap s.heap [] := va_S.rf
            have hfl : ∀ i, i ≤ k → (fiA (lgO b) S.2.1 (S.1 b) from_ step i).1.length ≤ 200 := fun i hi => by
              have h := fiA_len (lgO b) S.2.1 (S.1 b) from_ step i; omega
            refine lv_iload_n hx hb dX5_fill_0 rfl (lv_at hl 1 rfl) ?_
            refine k1_S hx hb hml hown hG cs_X5_68 (by have h := c5_isBook l D (nI (b)); rw [rch_in (by omega) (by decide)] at h; exact h) (by decide) (pzS (hK.sub (tys' := []) [] rfl) trivial) rfl hl.1 rfl (Nat.le_of_ble_eq_true rfl) dX5_fill_1 ⟨Nat.zero_le _, Nat.zero_le _⟩ rfl ?_
            refine x_ifb_ne (tgt := 13) hx hb dX5_fill_4 (by decide) (fun zc1 => ?_) (fun zc1 => False.elim (by first | exact absurd zc1 (by decide) | omega | (simp_all; done)))
            refine lv_iload_n hx hb dX5_fill_13 rfl (lv_at hl 1 rfl) ?_
            refine lv_iconst (v := nI 3) hx hb dX5_fill_14 (by decide) ?_
            refine x_cmp_eq (tgt := 29) hx hb dX5_fill_15 (by decide) (by omega) (by omega) (fun zc2 => False.elim (by first | omega | contradiction | exact absurd zc2 (m1_ne _ (by omega)) | exact absurd zc2 (by decide) | exact absurd (Eq.symm zc2) (m1_ne _ (by omega)) | (simp_all; done))) (fun zc2 => ?_)
            refine lv_iload hx hb dX5_fill_18 (lv_at hl 4 rfl) ?_
            refine lv_iconst (v := nI 0) hx hb dX5_fill_20 (by decide) ?_
            refine lv_bipush (v := nI 60) hx hb dX5_fill_21 (by decide) ?_
            refine k1_S hx hb hml hown hG cs_X5_42 (by have h := c5_in l D (nI (k)) (nI (0)) (nI (60)); rw [show inb (nI k) (nI 0) (nI 60) = true from by rw [show (nI 0 : Int32) = 0 from rfl, inb_rch (n := 61) (by decide) _ (nI 60) (by decide)]; exact rch_in hk6 (by decide)] at h; exact h) (by decide) (pzS (hK.sub (tys' := []) [] rfl) trivial) rfl hl.1 rfl (Nat.le_of_ble_eq_true rfl) dX5_fill_23 ⟨Nat.zero_le _, Nat.zero_le _⟩ rfl ?_
            refine x_ifb_ne (tgt := 35) hx hb dX5_fill_26 (by decide) (fun zc3 => ?_) (fun zc3 => False.elim (by first | exact absurd zc3 (by decide) | omega | (simp_all; done)))
            refine lv_iload_n hx hb dX5_fill_35 rfl (lv_at hl 1 rfl) ?_
            refine k1_S hx hb hml hown hG cs_X5_86 (by have h := c5_isPlain l D (nI (b)); rw [rch_in (by omega) (by decide)] at h; exact h) (by decide) (pzS (hK.sub (tys' := []) [] rfl) trivial) rfl hl.1 rfl (Nat.le_of_ble_eq_true rfl) dX5_fill_36 ⟨Nat.zero_le _, Nat.zero_le _⟩ rfl ?_
            refine x_ifb_eq (tgt := 60) hx hb dX5_fill_39 (by decide) (fun zc4 => False.elim (by first | exact absurd zc4 (by decide) | omega | (simp_all; done))) (fun zc4 => ?_)
            refine lv_aload_n hx hb dX5_fill_42 rfl (lv_at hl 0 rfl) ?_
            obtain ⟨K, V, sz, cb, ck, ca, it, ou, hP, hMB, hMC, hMO⟩ := id hB0
            have hP : va_P D vwCl [(d 0, .inr (5, [.ref (d 1), .ref (d 2), .ref (d 3), .int (nI (S.2.1)), .int (th), .ref (d 4), .ref (d 5), .ref (d 6), .ref (d 7), .ref (d 8), .int (nI (S.2.2.2.length))])), (d 1, .inl (cI, (804, .inl K))), (d 2, .inl (cI, (804, .inl V))), (d 3, .inl (cI, (4, .inl sz))), (d 4, .inl (cI, (3, .inl cb))), (d 5, .inl (cI, (3, .inl ck))), (d 6, .inl (cI, (3, .inl ca))), (d 7, .inl (cZ, (3, .inl it))), (d 8, .inl (cI, (6000, .inl ou)))] s.heap := hP
            have hD : va_D (Ao d 9) [(d 0, .inr (5, [.ref (d 1), .ref (d 2), .ref (d 3), .int (nI (S.2.1)), .int (th), .ref (d 4), .ref (d 5), .ref (d 6), .ref (d 7), .ref (d 8), .int (nI (S.2.2.2.length))])), (d 1, .inl (cI, (804, .inl K))), (d 2, .inl (cI, (804, .inl V))), (d 3, .inl (cI, (4, .inl sz))), (d 4, .inl (cI, (3, .inl cb))), (d 5, .inl (cI, (3, .inl ck))), (d 6, .inl (cI, (3, .inl ca))), (d 7, .inl (cZ, (3, .inl it))), (d 8, .inl (cI, (6000, .inl ou)))] := hap.D9
            refine gf_X5_16 hx hb hG hown hK hP 0 rfl rfl dX5_fill_43 ?_
            refine lv_iload_n hx hb dX5_fill_46 rfl (lv_at hl 1 rfl) ?_
            refine x_iald hx hb hK hP 3 0 rfl rfl (by omega) (by decide) dX5_fill_47 ?_
            rw [(hMB (b) (by omega)).1]
            refine lv_sipush (v := nI 140) hx hb dX5_fill_48 (by decide) ?_
            refine x_cmp_le (tgt := 60) hx hb dX5_fill_51 (by decide) (by omega) (by omega) (fun zc5 => ?_) (fun zc5 => False.elim (by first | omega | contradiction | exact absurd zc5 (m1_ne _ (by omega)) | exact absurd zc5 (by decide) | exact absurd (Eq.symm zc5) (m1_ne _ (by omega)) | (simp_all; done)))
            refine lv_iload_n hx hb dX5_fill_60 rfl (lv_at hl 2 rfl) ?_
            refine lv_istore (lv' := [(5, .int (from_)), (0, .ref (d 0)), (1, .int (nI (b))), (2, .int (from_)), (3, .int (step)), (4, .int (nI (k)))]) hx hb dX5_fill_61 hl (by decide) rfl (fun ls hl => ?_)
            refine lv_iconst (v := nI 0) hx hb dX5_fill_63 (by decide) ?_
            refine lv_istore (lv' := [(6, .int (nI (0))), (5, .int (from_)), (0, .ref (d 0)), (1, .int (nI (b))), (2, .int (from_)), (3, .int (step)), (4, .int (nI (k)))]) hx hb dX5_fill_64 hl (by decide) rfl (fun ls hl => ?_)
            suffices KK : ∀ (n i : Nat), k < i + n → i ≤ k → ∀ (H : Heap) (locs : List Loc), MdAt D cI cZ d (upB S b (fiA (lgO b) S.2.1 (S.1 b) from_ step i).1) th H → va_S (Ao d 9) s.heap H locs → ∀ ls : Array Slot, lv_has ls 7 [(6, .int (nI (i))), (5, .int ((fiA (lgO b) S.2.1 (S.1 b) from_ step i).2)), (0, .ref (d 0)), (1, .int (nI (b))), (2, .int (from_)), (3, .int (step)), (4, .int (nI (k)))] → W p l e (rmN 4) s m [.ref (d 0), .int (nI (b)), .int (from_), .int (step), .int (nI (k))].toArray below meth c H locs 0 0 (MQ below (Wq (some (.int (nI (fiA (lgO b) S.2.1 (S.1 b) from_ step k).1.length))) (fun H => MdAt D cI cZ d (clB (upB S b (fiA (lgO b) S.2.1 (S.1 b) from_ step k).1) b (-1)) (nI 0) H) (Ao d 9)) [.ref (d 0), .int (nI (b)), .int (from_), .int (step), .int (nI (k))].toArray s 0 0 (Ao d 9)) (F0 m 66 ls []) from KK (k + 1) 0 (by omega) (by omega) s.heap [] (by rw [show (upB S b (fiA (lgO b) S.2.1 (S.1 b) from_ step 0).1) = S from upB_id S b]; exact hB0) hS ls (lv_sub hl [0, 1, 2, 3, 4, 5, 6] rfl)
            clear hB0 hS hl
            intro n
            induction n with
            | zero => intro i h1 h2; omega
            | succ n ih =>
              intro i h1 h2 H locs hB0 hS ls hl
              refine lv_iload hx hb dX5_fill_66 (lv_at hl 0 rfl) ?_
              refine lv_iload hx hb dX5_fill_68 (lv_at hl 6 rfl) ?_
              refine x_cmp_ge (tgt := 93) hx hb dX5_fill_70 (by decide) (by omega) (by omega) (fun c1 => ?_) (fun c1 => ?_)
              · have ei : i = k := by omega
                subst ei
                refine lv_aload_n hx hb dX5_fill_93 rfl (lv_at hl 2 rfl) ?_
                refine lv_iload_n hx hb dX5_fill_94 rfl (lv_at hl 3 rfl) ?_
                refine lv_iconst (v := (-1)) hx hb dX5_fill_95 (by decide) ?_
                refine k2_V hx hb hml hown hG cs_X5_62 (c5_closes l D cI cZ d (upB S b (fiA (lgO b) S.2.1 (S.1 b) from_ step i).1) th b (-1) (by omega) hCC hap) (by decide) (pzV hK rfl hB0.rc hB0) rfl hl.1 rfl (Nat.le_of_ble_eq_true rfl) dX5_fill_96 ⟨Nat.zero_le _, Nat.zero_le _⟩ rfl hS (fun q h => h) (fun H locs hB0 hz hk hS => ?_)
                refine lv_aload_n hx hb dX5_fill_99 rfl (lv_at hl 2 rfl) ?_
                refine lv_aload_n hx hb dX5_fill_100 rfl (lv_at hl 2 rfl) ?_
                obtain ⟨K, V, sz, cb, ck, ca, it, ou, hP, hMB, hMC, hMO⟩ := id hB0
                have hMB : MdB (upB S b (fiA (lgO b) S.2.1 (S.1 b) from_ step i).1).1 K V sz := hMB
                have hP : va_P D vwCl [(d 0, .inr (5, [.ref (d 1), .ref (d 2), .ref (d 3), .int (nI (S.2.1)), .int (th), .ref (d 4), .ref (d 5), .ref (d 6), .ref (d 7), .ref (d 8), .int (nI (S.2.2.2.length))])), (d 1, .inl (cI, (804, .inl K))), (d 2, .inl (cI, (804, .inl V))), (d 3, .inl (cI, (4, .inl sz))), (d 4, .inl (cI, (3, .inl cb))), (d 5, .inl (cI, (3, .inl ck))), (d 6, .inl (cI, (3, .inl ca))), (d 7, .inl (cZ, (3, .inl it))), (d 8, .inl (cI, (6000, .inl ou)))] H := hP
                have hD : va_D (Ao d 9) [(d 0, .inr (5, [.ref (d 1), .ref (d 2), .ref (d 3), .int (nI (S.2.1)), .int (th), .ref (d 4), .ref (d 5), .ref (d 6), .ref (d 7), .ref (d 8), .int (nI (S.2.2.2.length))])), (d 1, .inl (cI, (804, .inl K))), (d 2, .inl (cI, (804, .inl V))), (d 3, .inl (cI, (4, .inl sz))), (d 4, .inl (cI, (3, .inl cb))), (d 5, .inl (cI, (3, .inl ck))), (d 6, .inl (cI, (3, .inl ca))), (d 7, .inl (cZ, (3, .inl it))), (d 8, .inl (cI, (6000, .inl ou)))] := hap.D9
                refine gf_X5_16 hx hb hG hown hK hP 0 rfl rfl dX5_fill_101 ?_
                refine lv_iload_n hx hb dX5_fill_104 rfl (lv_at hl 3 rfl) ?_
                refine x_iald hx hb hK hP 3 0 rfl rfl (by omega) (by decide) dX5_fill_105 ?_
                rw [(hMB (b) (by omega)).1]
                refine k2_V hx hb hml hown hG cs_X5_65 (c5_told l D cI cZ d (clB (upB S b (fiA (lgO b) S.2.1 (S.1 b) from_ step i).1) b (-1)) th (nI (((upB S b (fiA (lgO b) S.2.1 (S.1 b) from_ step i).1).1 b).length)) hap) (by decide) (pzV hK rfl hB0.rc hB0) rfl hl.1 rfl (Nat.le_of_ble_eq_true rfl) dX5_fill_106 ⟨Nat.zero_le _, Nat.zero_le _⟩ rfl hS (fun q h => h) (fun H locs hB0 hz hk hS => ?_)
                exact w_i (PB := (fun H => MdAt D cI cZ d (clB (upB S b (fiA (lgO b) S.2.1 (S.1 b) from_ step i).1) b (-1)) (nI 0) H)) (by rw [upB_at]) hB0 hS hx hb hr hlocks dX5_fill_109
              · refine lv_aload_n hx hb dX5_fill_73 rfl (lv_at hl 2 rfl) ?_
                refine lv_iload_n hx hb dX5_fill_74 rfl (lv_at hl 3 rfl) ?_
                refine lv_iload hx hb dX5_fill_75 (lv_at hl 1 rfl) ?_
                refine lv_iconst (v := nI 0) hx hb dX5_fill_77 (by decide) ?_
                refine k2_V hx hb hml hown hG cs_X5_79 (c5_puts l D cI cZ d (upB S b (fiA (lgO b) S.2.1 (S.1 b) from_ step i).1) th b ((fiA (lgO b) S.2.1 (S.1 b) from_ step i).2) (nI (0)) (by omega) hap (by rw [upB_at]; exact hfl i (by omega)) (by show S.2.1 ≤ 200; omega)) (by decide) (pzV hK rfl hB0.rc hB0) rfl hl.1 rfl (Nat.le_of_ble_eq_true rfl) dX5_fill_78 ⟨Nat.zero_le _, Nat.zero_le _⟩ rfl hS (fun q h => h) (fun H locs hB0 hz hk hS => ?_)
                have hB0 : MdAt D cI cZ d (upB S b (fiA (lgO b) S.2.1 (S.1 b) from_ step (i + 1)).1) th H := by rw [upB_up, upB_at] at hB0; exact hB0
                refine lv_iload hx hb dX5_fill_81 (lv_at hl 1 rfl) ?_
                refine lv_iload_n hx hb dX5_fill_83 rfl (lv_at hl 5 rfl) ?_
                refine x_iadd (v := ((fiA (lgO b) S.2.1 (S.1 b) from_ step i).2) + step) hx hb dX5_fill_84 rfl ?_
                refine lv_istore (lv' := [(5, .int (((fiA (lgO b) S.2.1 (S.1 b) from_ step i).2) + step)), (6, .int (nI (i))), (0, .ref (d 0)), (1, .int (nI (b))), (2, .int (from_)), (3, .int (step)), (4, .int (nI (k)))]) hx hb dX5_fill_85 hl (by decide) rfl (fun ls hl => ?_)
                refine x_iinc (k := 1) (lv' := [(6, .int (nI (i + 1))), (5, .int (((fiA (lgO b) S.2.1 (S.1 b) from_ step i).2) + step)), (0, .ref (d 0)), (1, .int (nI (b))), (2, .int (from_)), (3, .int (step)), (4, .int (nI (k)))]) hx hb dX5_fill_87 hl rfl (by decide) rfl (fun ls hl => ?_)
                refine lv_goto (tgt := 66) hx hb dX5_fill_90 (by decide) ?_
                exact ih (i + 1) (by omega) (by omega) H locs hB0 hS ls (lv_sub hl [0, 1, 2, 3, 4, 5, 6] rfl)
    · by_cases h3 : b = 3
      · subst h3
        have e9 : sp_fill S (nI (3)) from_ step many = (2, 0, S) := by simp [sp_fill, hbk, hbm]
        rw [e9]
        refine m_start (by decide) (Nat.le_of_ble_eq_true rfl) ?_
        intro p e s m below meth c hx hb hr hG hown hlocks hml hB ls hl
        have hl : lv_has ls 7 [(0, .ref (d 0)), (1, .int (nI (3))), (2, .int (from_)), (3, .int (step)), (4, .int (many))] := hl
        obtain ⟨hB0, hK⟩ := hB
        have hS : va_S (Ao d 9) s.heap s.heap [] := va_S.rf
        refine lv_iload_n hx hb dX5_fill_0 rfl (lv_at hl 1 rfl) ?_
        refine k1_S hx hb hml hown hG cs_X5_68 (by have h := c5_isBook l D (nI (3)); rw [rch_in (by omega) (by decide)] at h; exact h) (by decide) (pzS (hK.sub (tys' := []) [] rfl) trivial) rfl hl.1 rfl (Nat.le_of_ble_eq_true rfl) dX5_fill_1 ⟨Nat.zero_le _, Nat.zero_le _⟩ rfl ?_
        refine x_ifb_ne (tgt := 13) hx hb dX5_fill_4 (by decide) (fun zc1 => ?_) (fun zc1 => False.elim (by first | exact absurd zc1 (by decide) | omega | (simp_all; done)))
        refine lv_iload_n hx hb dX5_fill_13 rfl (lv_at hl 1 rfl) ?_
        refine lv_iconst (v := nI 3) hx hb dX5_fill_14 (by decide) ?_
        refine x_cmp_eq (tgt := 29) hx hb dX5_fill_15 (by decide) (by omega) (by omega) (fun zc2 => ?_) (fun zc2 => False.elim (by first | exact absurd zc2 (by decide) | omega | (simp_all; done)))
        refine lv_aload_n hx hb dX5_fill_29 rfl (lv_at hl 0 rfl) ?_
        refine lv_iconst (v := nI 2) hx hb dX5_fill_30 (by decide) ?_
        refine k2_V hx hb hml hown hG cs_X5_58 (c5_refuse l D cI cZ d S th 2 hap) (by decide) (pzV hK rfl hB0.rc hB0) rfl hl.1 rfl (Nat.le_of_ble_eq_true rfl) dX5_fill_31 ⟨Nat.zero_le _, Nat.zero_le _⟩ rfl hS (fun q h => h) (fun H locs hB0 hz hk hS => ?_)
        exact w_i (PB := (fun H => MdAt D cI cZ d S (nI 2) H)) rfl hB0 hS hx hb hr hlocks dX5_fill_34
      · skip
        have e9 : sp_fill S (nI (b)) from_ step many = (2, 0, S) := by simp [sp_fill, hbk, hbm]
        rw [e9]
        refine m_start (by decide) (Nat.le_of_ble_eq_true rfl) ?_
        intro p e s m below meth c hx hb hr hG hown hlocks hml hB ls hl
        have hl : lv_has ls 7 [(0, .ref (d 0)), (1, .int (nI (b))), (2, .int (from_)), (3, .int (step)), (4, .int (many))] := hl
        obtain ⟨hB0, hK⟩ := hB
        have hS : va_S (Ao d 9) s.heap s.heap [] := va_S.rf
        refine lv_iload_n hx hb dX5_fill_0 rfl (lv_at hl 1 rfl) ?_
        refine k1_S hx hb hml hown hG cs_X5_68 (by have h := c5_isBook l D (nI (b)); rw [rch_in (by omega) (by decide)] at h; exact h) (by decide) (pzS (hK.sub (tys' := []) [] rfl) trivial) rfl hl.1 rfl (Nat.le_of_ble_eq_true rfl) dX5_fill_1 ⟨Nat.zero_le _, Nat.zero_le _⟩ rfl ?_
        refine x_ifb_ne (tgt := 13) hx hb dX5_fill_4 (by decide) (fun zc1 => ?_) (fun zc1 => False.elim (by first | exact absurd zc1 (by decide) | omega | (simp_all; done)))
        refine lv_iload_n hx hb dX5_fill_13 rfl (lv_at hl 1 rfl) ?_
        refine lv_iconst (v := nI 3) hx hb dX5_fill_14 (by decide) ?_
        refine x_cmp_eq (tgt := 29) hx hb dX5_fill_15 (by decide) (by omega) (by omega) (fun zc2 => False.elim (by first | omega | contradiction | exact absurd zc2 (m1_ne _ (by omega)) | exact absurd zc2 (by decide) | exact absurd (Eq.symm zc2) (m1_ne _ (by omega)) | (simp_all; done))) (fun zc2 => ?_)
        refine lv_iload hx hb dX5_fill_18 (lv_at hl 4 rfl) ?_
        refine lv_iconst (v := nI 0) hx hb dX5_fill_20 (by decide) ?_
        refine lv_bipush (v := nI 60) hx hb dX5_fill_21 (by decide) ?_
        refine k1_S hx hb hml hown hG cs_X5_42 (by have h := c5_in l D many (nI (0)) (nI (60)); rw [show inb many (nI 0) (nI 60) = false from by rw [show (nI 0 : Int32) = 0 from rfl, inb_rch (n := 61) (by decide) _ (nI 60) (by decide)]; exact hnom] at h; exact h) (by decide) (pzS (hK.sub (tys' := []) [] rfl) trivial) rfl hl.1 rfl (Nat.le_of_ble_eq_true rfl) dX5_fill_23 ⟨Nat.zero_le _, Nat.zero_le _⟩ rfl ?_
        refine x_ifb_ne (tgt := 35) hx hb dX5_fill_26 (by decide) (fun zc3 => False.elim (by first | exact absurd zc3 (by decide) | omega | (simp_all; done))) (fun zc3 => ?_)
        refine lv_aload_n hx hb dX5_fill_29 rfl (lv_at hl 0 rfl) ?_
        refine lv_iconst (v := nI 2) hx hb dX5_fill_30 (by decide) ?_
        refine k2_V hx hb hml hown hG cs_X5_58 (c5_refuse l D cI cZ d S th 2 hap) (by decide) (pzV hK rfl hB0.rc hB0) rfl hl.1 rfl (Nat.le_of_ble_eq_true rfl) dX5_fill_31 ⟨Nat.zero_le _, Nat.zero_le _⟩ rfl hS (fun q h => h) (fun H locs hB0 hz hk hS => ?_)
        exact w_i (PB := (fun H => MdAt D cI cZ d S (nI 2) H)) rfl hB0 hS hx hb hr hlocks dX5_fill_34
  · skip
    have e9 : sp_fill S x from_ step many = (1, 0, S) := by simp [sp_fill, hbk]
    rw [e9]
    refine m_start (by decide) (Nat.le_of_ble_eq_true rfl) ?_
    intro p e s m below meth c hx hb hr hG hown hlocks hml hB ls hl
    have hl : lv_has ls 7 [(0, .ref (d 0)), (1, .int (x)), (2, .int (from_)), (3, .int (step)), (4, .int (many))] := hl
    obtain ⟨hB0, hK⟩ := hB
    have hS : va_S (Ao d 9) s.heap s.heap [] := va_S.rf
    refine lv_iload_n hx hb dX5_fill_0 rfl (lv_at hl 1 rfl) ?_
    refine k1_S hx hb hml hown hG cs_X5_68 (by have h := c5_isBook l D x; rw [hno] at h; exact h) (by decide) (pzS (hK.sub (tys' := []) [] rfl) trivial) rfl hl.1 rfl (Nat.le_of_ble_eq_true rfl) dX5_fill_1 ⟨Nat.zero_le _, Nat.zero_le _⟩ rfl ?_
    refine x_ifb_ne (tgt := 13) hx hb dX5_fill_4 (by decide) (fun zc1 => False.elim (by first | exact absurd zc1 (by decide) | omega | (simp_all; done))) (fun zc1 => ?_)
    refine lv_aload_n hx hb dX5_fill_7 rfl (lv_at hl 0 rfl) ?_
    refine lv_iconst (v := nI 1) hx hb dX5_fill_8 (by decide) ?_
    refine k2_V hx hb hml hown hG cs_X5_58 (c5_refuse l D cI cZ d S th 1 hap) (by decide) (pzV hK rfl hB0.rc hB0) rfl hl.1 rfl (Nat.le_of_ble_eq_true rfl) dX5_fill_9 ⟨Nat.zero_le _, Nat.zero_le _⟩ rfl hS (fun q h => h) (fun H locs hB0 hz hk hS => ?_)
    exact w_i (PB := (fun H => MdAt D cI cZ d S (nI 1) H)) rfl hB0 hS hx hb hr hlocks dX5_fill_12
