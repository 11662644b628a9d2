def clI (C : Nat → Cu) (b : Nat) (but : Int32) (i : Nat) : Nat → Cu := fun c => if c < i then clo C b but c else C c
def clS (S : St) (b : Nat) (but : Int32) (i : Nat) : St := (S.1, S.2.1, clI S.2.2.1 b but i, S.2.2.2)
section WC2
variable {D : va_G} {cI cC : ClassId} {ad : Nat → Nat} {S T : St} {N : Nat} {H H1 : Heap}
theorem Wc.cong (h : Wc D cI cC ad S N H) (h1 : T.1 = S.1) (h2 : T.2.1 = S.2.1) (h3 : ∀ c, c < 3 → T.2.2.1 c = S.2.2.1 c) (h4 : T.2.2.2 = S.2.2.2) : Wc D cI cC ad T N H := by
  obtain ⟨g1, g2, g3, g4, g5⟩ := h
  refine ⟨g1, fun b hb => ?_, g3, fun c hc => by rw [h3 c hc]; exact g4 c hc, by rw [h4]; exact g5⟩
  unfold bdO
  rw [h1, h2]
  exact g2 b hb
theorem Wc.cl3 {b : Nat} {but : Int32} (h : Wc D cI cC ad (clS S b but 3) N H) : Wc D cI cC ad (clB S b but) N H := h.cong rfl rfl (fun c hc => by
  show clo S.2.2.1 b but c = (if c < 3 then clo S.2.2.1 b but c else S.2.2.1 c)
  rw [if_pos hc]) rfl
theorem Wc.cl0 {b : Nat} {but : Int32} (h : Wc D cI cC ad S N H) : Wc D cI cC ad (clS S b but 0) N H := h.cong rfl rfl (fun c hc => rfl) rfl
theorem Wc.clk {b : Nat} {but : Int32} {i : Nat} (h : Wc D cI cC ad (clS S b but i) N H) (hk : clo S.2.2.1 b but i = S.2.2.1 i) : Wc D cI cC ad (clS S b but (i + 1)) N H := h.cong rfl rfl (fun c hc => by
  show (if c < i + 1 then clo S.2.2.1 b but c else S.2.2.1 c) = (if c < i then clo S.2.2.1 b but c else S.2.2.1 c)
  by_cases e : c = i
  · subst e; rw [if_pos (by omega), if_neg (by omega), hk]
  · by_cases q : c < i
    · rw [if_pos q, if_pos (by omega)]
    · rw [if_neg q, if_neg (by omega)]) rfl
theorem Wc.clc {b : Nat} {but : Int32} {i : Nat} (h : Wc D cI cC ad (stC (clS S b but i) i none) N H) (hk : clo S.2.2.1 b but i = none) : Wc D cI cC ad (clS S b but (i + 1)) N H := h.cong rfl rfl (fun c hc => by
  show (if c < i + 1 then clo S.2.2.1 b but c else S.2.2.1 c) = (if c = i then none else if c < i then clo S.2.2.1 b but c else S.2.2.1 c)
  by_cases e : c = i
  · subst e; rw [if_pos (by omega), if_pos rfl, hk]
  · by_cases q : c < i
    · rw [if_pos (by omega), if_neg e, if_pos q]
    · rw [if_neg (by omega), if_neg e, if_neg q]) rfl
theorem clI_at (C : Nat → Cu) (b : Nat) (but : Int32) (i : Nat) : clI C b but i i = C i := if_neg (Nat.lt_irrefl i)
theorem clo_but {C : Nat → Cu} {b : Nat} {but : Int32} {i : Nat} (h : nI i = but) : clo C b but i = C i := by
  rw [clo_cases]
  cases hc : C i with
  | none => rfl
  | some x => exact if_neg (fun z => z.2 h)
theorem clo_oth {C : Nat → Cu} {b : Nat} {but : Int32} {i : Nat} {x : Nat × Nat × Nat × Bool} (hc : C i = some x) (h : x.1 ≠ b) : clo C b but i = C i := by
  rw [clo_cases, hc]
  exact if_neg (fun z => h z.1)
theorem clo_no {C : Nat → Cu} {b : Nat} {but : Int32} {i : Nat} (hc : C i = none) : clo C b but i = C i := by
  rw [clo_cases, hc]
theorem clo_yes {C : Nat → Cu} {b : Nat} {but : Int32} {i : Nat} {x : Nat × Nat × Nat × Bool} (hc : C i = some x) (h : x.1 = b) (h2 : nI i ≠ but) : clo C b but i = none := by
  rw [clo_cases, hc]
  exact if_pos ⟨h, h2⟩
end WC2
set_option maxHeartbeats 4000000 in
set_option maxRecDepth 100000 in
theorem k_closeCursors (l : Launch) (D : va_G) (cI cC : ClassId) (ad : Nat → Nat) (S : St) (N : Nat) (b : Nat) (but : Int32) (hb4 : b < 4) (hCC : ∀ c, c < 3 → ∀ y, S.2.2.1 c = some y → y.1 < 4) (hap : Ap ad 36) : Met l yX4_closeCursors (ws_ yX4_closeCursors cX4_closeCursors 5 none) (rmN 1) (va_Pc [.ref (ad 0), .int (nI (b)), .int (but)] (pz D [(cI, .int), (cC, .char)] (fun H => Wc D cI cC ad S N H))) (Wq none (fun H => Wc D cI cC ad (clB S b but) N H) (Ao ad 36)) 0 0 (Ao ad 36) := by
  refine m_start (by decide) (Nat.le_of_ble_eq_true rfl) ?_
  intro p e s m below meth c hx hb hr hG hown hlocks hml hB ls hl
  have hl : lv_has ls 5 [(0, .ref (ad 0)), (1, .int (nI (b))), (2, .int (but))] := hl
  obtain ⟨hW, hK⟩ := hB
  have hS : va_S (Ao ad 36) s.heap s.heap [] := va_S.rf
  refine lv_iconst (v := nI 0) hx hb dX4_closeCursors_0 (by decide) ?_
  refine lv_istore_n (lv' := [(3, .int (nI (0))), (0, .ref (ad 0)), (1, .int (nI (b))), (2, .int (but))]) hx hb dX4_closeCursors_1 rfl hl (by decide) rfl (fun ls hl => ?_)
  suffices KK : ∀ (n i : Nat), 3 < i + n → i ≤ 3 → ∀ (H : Heap) (locs : List Loc), Wc D cI cC ad (clS S b but i) N H → va_S (Ao ad 36) s.heap H locs → ∀ ls : Array Slot, lv_has ls 5 [(3, .int (nI (i))), (0, .ref (ad 0)), (1, .int (nI (b))), (2, .int (but))] → W p l e (rmN 1) s m [.ref (ad 0), .int (nI (b)), .int (but)].toArray below meth c H locs 0 0 (MQ below (Wq none (fun H => Wc D cI cC ad (clB S b but) N H) (Ao ad 36)) [.ref (ad 0), .int (nI (b)), .int (but)].toArray s 0 0 (Ao ad 36)) (F0 m 2 ls []) from KK 4 0 (by omega) (by omega) s.heap [] hW.cl0 hS ls (lv_sub hl [0, 1, 2, 3] rfl)
  clear hW hS hl
  intro n
  induction n with
  | zero => intro i h1 h2; omega
  | succ n ih =>
    intro i h1 h2 H locs hW hS ls hl
    refine lv_iload_n hx hb dX4_closeCursors_2 rfl (lv_at hl 0 rfl) ?_
    refine lv_iconst (v := nI 3) hx hb dX4_closeCursors_3 (by decide) ?_
    refine x_cmp_ge (tgt := 39) hx hb dX4_closeCursors_4 (by decide) (by omega) (by omega) (fun c1 => ?_) (fun c1 => ?_)
    · have ei : i = 3 := by omega
      rw [ei] at hW
      exact w_v (PB := fun H => Wc D cI cC ad (clB S b but) N H) hW.cl3 hS hx hb hr hlocks dX4_closeCursors_39
    · refine lv_aload_n hx hb dX4_closeCursors_7 rfl (lv_at hl 1 rfl) ?_
      refine lv_iload_n hx hb dX4_closeCursors_8 rfl (lv_at hl 0 rfl) ?_
      refine k1_V hx hb hml hown hG cs_X4_137 (k_cursorOfNumber l D cI cC ad (clS S b but i) N i (by omega)) (by decide) (pzV hK rfl hW.rc hW) rfl hl.1 rfl (Nat.le_of_ble_eq_true rfl) dX4_closeCursors_9 ⟨Nat.zero_le _, Nat.zero_le _⟩ rfl ?_
      refine lv_astore (lv' := [(4, .ref (ad (31 + i))), (3, .int (nI (i))), (0, .ref (ad 0)), (1, .int (nI (b))), (2, .int (but))]) hx hb dX4_closeCursors_12 hl (by decide) rfl (fun ls hl => ?_)
      refine lv_iload_n hx hb dX4_closeCursors_14 rfl (lv_at hl 1 rfl) ?_
      refine lv_iload_n hx hb dX4_closeCursors_15 rfl (lv_at hl 4 rfl) ?_
      refine lv_icmp_eq (tgt := 33) hx hb dX4_closeCursors_16 (by decide) (fun c2 => ?_) (fun c2 => ?_)
      · refine x_iinc (k := 1) (lv' := [(3, .int (nI (i + 1))), (4, .ref (ad (31 + i))), (0, .ref (ad 0)), (1, .int (nI (b))), (2, .int (but))]) hx hb dX4_closeCursors_33 hl rfl (by decide) rfl (fun ls hl => ?_)
        refine lv_goto (tgt := 2) hx hb dX4_closeCursors_36 (by decide) ?_
        exact ih (i + 1) (by omega) (by omega) H locs (hW.clk (clo_but c2)) hS ls (lv_sub hl [0, 2, 3, 4] rfl)
      · have hCu := hW.cu (c := i) (by omega)
        rw [show (clS S b but i).2.2.1 i = S.2.2.1 i from clI_at _ _ _ _] at hCu
        cases hC : S.2.2.1 i with
        | none =>
          rw [hC] at hCu
          obtain ⟨x1, y1, z1, hCu⟩ := hCu
          refine lv_aload hx hb dX4_closeCursors_19 (lv_at hl 0 rfl) ?_
          refine gf_X4_153 hx hb hG hown hK hCu 0 rfl rfl dX4_closeCursors_21 ?_
          refine lv_iload_n hx hb dX4_closeCursors_24 rfl (lv_at hl 3 rfl) ?_
          refine lv_icmp_ne (tgt := 33) hx hb dX4_closeCursors_25 (by decide) (fun zc1 => ?_) (fun zc1 => False.elim (by first | omega | contradiction | exact absurd zc1 (m1_ne _ (by omega)) | exact absurd zc1 (by decide) | exact absurd (Eq.symm zc1) (m1_ne _ (by omega)) | (simp_all; done)))
          refine x_iinc (k := 1) (lv' := [(3, .int (nI (i + 1))), (4, .ref (ad (31 + i))), (0, .ref (ad 0)), (1, .int (nI (b))), (2, .int (but))]) hx hb dX4_closeCursors_33 hl rfl (by decide) rfl (fun ls hl => ?_)
          refine lv_goto (tgt := 2) hx hb dX4_closeCursors_36 (by decide) ?_
          exact ih (i + 1) (by omega) (by omega) H locs (hW.clk (clo_no hC)) hS ls (lv_sub hl [0, 2, 3, 4] rfl)
        | some x9 =>
          obtain ⟨q, k9, n9, t9⟩ := x9
          have hq4 : q < 4 := hCC i (by omega) _ hC
          rw [hC] at hCu
          have hCu : CuRaw D (ad (31 + i)) (nI q) (nI k9) (nI n9) (bI t9) H := hCu
          refine lv_aload hx hb dX4_closeCursors_19 (lv_at hl 0 rfl) ?_
          refine gf_X4_153 hx hb hG hown hK hCu 0 rfl rfl dX4_closeCursors_21 ?_
          refine lv_iload_n hx hb dX4_closeCursors_24 rfl (lv_at hl 3 rfl) ?_
          refine x_cmp_ne (tgt := 33) hx hb dX4_closeCursors_25 (by decide) (by omega) (by omega) (fun c3 => ?_) (fun c3 => ?_)
          · refine x_iinc (k := 1) (lv' := [(3, .int (nI (i + 1))), (4, .ref (ad (31 + i))), (0, .ref (ad 0)), (1, .int (nI (b))), (2, .int (but))]) hx hb dX4_closeCursors_33 hl rfl (by decide) rfl (fun ls hl => ?_)
            refine lv_goto (tgt := 2) hx hb dX4_closeCursors_36 (by decide) ?_
            exact ih (i + 1) (by omega) (by omega) H locs (hW.clk (clo_oth hC c3)) hS ls (lv_sub hl [0, 2, 3, 4] rfl)
          · refine lv_aload hx hb dX4_closeCursors_28 (lv_at hl 0 rfl) ?_
            refine k2_V hx hb hml hown hG cs_X4_269 (c_close l D (ad (31 + i)) (nI q) (nI k9) (nI n9) (bI t9)) (by decide) (pzV (hK.sub (tys' := []) [] rfl) rfl hCu.rc hCu) rfl hl.1 rfl (Nat.le_of_ble_eq_true rfl) dX4_closeCursors_30 ⟨Nat.zero_le _, Nat.zero_le _⟩ rfl hS (cu_Ao (by omega)) (fun H locs hB0 hz hk hS => ?_)
            have hW := hW.cur hap (c := i) (by omega) (fun q z => z) hk (x := none) ⟨_, _, _, hB0⟩
            refine x_iinc (k := 1) (lv' := [(3, .int (nI (i + 1))), (4, .ref (ad (31 + i))), (0, .ref (ad 0)), (1, .int (nI (b))), (2, .int (but))]) hx hb dX4_closeCursors_33 hl rfl (by decide) rfl (fun ls hl => ?_)
            refine lv_goto (tgt := 2) hx hb dX4_closeCursors_36 (by decide) ?_
            exact ih (i + 1) (by omega) (by omega) H locs (hW.clc (clo_yes hC c3 c2)) hS ls (lv_sub hl [0, 2, 3, 4] rfl)
