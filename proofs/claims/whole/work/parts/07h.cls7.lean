/-- the last m pairs of a book, from its end -/
def rvL (L : Bk) : Nat → Bk
  | 0 => []
  | m + 1 => rvL L m ++ [(kf L (L.length - 1 - m), vf L (L.length - 1 - m))]
theorem rvL_len (L : Bk) : ∀ m, (rvL L m).length = m
  | 0 => rfl
  | m + 1 => by rw [rvL, app_len, rvL_len L m]
theorem rvL_at (L : Bk) : ∀ m j, j < m → kf (rvL L m) j = kf L (L.length - 1 - j) ∧ vf (rvL L m) j = vf L (L.length - 1 - j)
  | 0, j, h => absurd h (Nat.not_lt_zero j)
  | m + 1, j, h => by
    rw [rvL]
    rcases Nat.lt_or_ge j m with q | q
    · rw [kf_app (by rw [rvL_len]; exact q), vf_app (by rw [rvL_len]; exact q)]
      exact rvL_at L m j q
    · have e : j = m := by omega
      subst e
      have h1 := kf_end (rvL L j) (kf L (L.length - 1 - j), vf L (L.length - 1 - j))
      have h2 := vf_end (rvL L j) (kf L (L.length - 1 - j), vf L (L.length - 1 - j))
      rw [rvL_len] at h1 h2
      exact ⟨h1, h2⟩
theorem rvL_fx {L : Bk} (hL : ND L) {m : Nat} (hm : m < L.length) : fx (rvL L m) (kf L (L.length - 1 - m)) = none := fx_no (fun j hj => by
  rw [rvL_len] at hj
  rw [(rvL_at L m j hj).1]
  exact fun e => hL (L.length - 1 - m) (L.length - 1 - j) (by omega) (by omega) e.symm)
theorem rvL_ND {L : Bk} (hL : ND L) : ∀ m, m ≤ L.length → ND (rvL L m)
  | 0, _ => ND_nil
  | m + 1, h => ND_app (rvL_ND hL m (by omega)) (rvL_fx hL (by omega))
theorem rvL_hs (L : Bk) (M : Nat) : ∀ m, m ≤ M → hsL (rvL L M) m = hsU L m
  | 0, _ => rfl
  | m + 1, h => by
    rw [hsL, hsU, rvL_hs L M m (by omega), (rvL_at L M m (by omega)).1, (rvL_at L M m (by omega)).2]
theorem rvL_mix (L : Bk) : hsL (rvL L L.length) (rvL L L.length).length = hsL L L.length := by
  rw [rvL_len, rvL_hs L L.length L.length (Nat.le_refl _), hsU_all]
theorem allB_all {f : Nat → Bool} : ∀ {n : Nat}, (∀ j, j < n → f j = true) → allB f n = true
  | 0, _ => rfl
  | n + 1, h => allB_s (allB_all (fun j hj => h j (by omega))) (h n (by omega))
theorem rvL_eq {L : Bk} (hL : ND L) : eqB (rvL L L.length) L = true := eqB_yes (rvL_len L _) (allB_all (fun j hj => by
  rw [rvL_len] at hj
  have h := rvL_at L L.length j hj
  rw [hasP_at (j := L.length - 1 - j) (by rw [h.1]; exact ND_fx hL (by omega)), h.2]
  exact decide_eq_true rfl))
theorem alB_self (L : Bk) : alB L L = true := alB_yes rfl (allB_all (fun j _ => rowP_y rfl rfl))
set_option maxHeartbeats 4000000 in
set_option maxRecDepth 100000 in
theorem k_isCopyInOrder (l : Launch) (D : va_G) (cI cC : ClassId) (ad : Nat → Nat) (S : St) (N : Nat) (b : Nat) (hb4 : b < 4) (hI : Inv S) (hN : N + 400 < 2 ^ 31) (hap : Ap ad 36) : Met l yX4_isCopyInOrder (ws_ yX4_isCopyInOrder cX4_isCopyInOrder 2 (some .boolean)) (rmN 5) (va_Pc [.ref (ad 0), .ref ((bk_ ad b) 0)] (pz D [(cI, .int), (cC, .char)] (fun H => Wc D cI cC ad S N H))) (Wq (some (.int (bI true))) (fun H => Wc D cI cC ad S (N + 200) H) (Ao ad 36)) 0 0 (Ao ad 36) := by
  refine m_start (by decide) (Nat.le_of_ble_eq_true rfl) ?_
  intro p e s m below meth c hx hb hr hG hown hlocks hml hB ls hl
  have hl : lv_has ls 2 [(0, .ref (ad 0)), (1, .ref ((bk_ ad b) 0))] := hl
  obtain ⟨hW, hK⟩ := hB
  have hS : va_S (Ao ad 36) s.heap s.heap [] := va_S.rf
  have hN2 := hI.1 b hb4
  obtain ⟨LS, hSp⟩ := hW.sp
  refine lv_aload_n hx hb dX4_isCopyInOrder_0 rfl (lv_at hl 0 rfl) ?_
  refine gf_X4_27 hx hb hG hown hK hW.x 0 rfl rfl dX4_isCopyInOrder_1 ?_
  refine lv_aload_n hx hb dX4_isCopyInOrder_4 rfl (lv_at hl 1 rfl) ?_
  refine k2_V hx hb hml hown hG cs_X4_127 (c_becomeCopyOf l D cI (bk_ ad 4) (bk_ ad b) 200 LS (lgO b) (bdO S b) (S.1 b) N (fun i hi => bk_off (by omega) (by omega) (by omega) hap i hi) hN2.1 (by omega) (by omega) (bk_Ap (by omega) hap)) (by decide) (pzV (hK.sub (tys' := [(cI, .int)]) [0] rfl) rfl hSp.1.rc ⟨hSp, (hW.bk (b := b) (by omega)).1⟩) rfl hl.1 rfl (Nat.le_of_ble_eq_true rfl) dX4_isCopyInOrder_5 ⟨Nat.zero_le _, Nat.zero_le _⟩ rfl hS (bk_Ao (by omega)) (fun H locs hB0 hz hk hS => ?_)
  have hW := hW.spare hap hk (M := N + (S.1 b).length) (by omega) hB0
  have hSp := hB0
  refine lv_aload_n hx hb dX4_isCopyInOrder_8 rfl (lv_at hl 0 rfl) ?_
  refine gf_X4_27 hx hb hG hown hK hW.x 0 rfl rfl dX4_isCopyInOrder_9 ?_
  refine lv_aload_n hx hb dX4_isCopyInOrder_12 rfl (lv_at hl 1 rfl) ?_
  have hcon := c_hasRowOf l D cI (bk_ ad 4) (bk_ ad b) false 200 (S.1 b) (lgO b) (bdO S b) (S.1 b)
  rw [alB_self] at hcon
  refine k1_V hx hb hml hown hG cs_X4_188 hcon (by decide) (pzV (hK.sub (tys' := [(cI, .int)]) [0] rfl) rfl hSp.1.rc ⟨hSp.1, (hW.bk (b := b) (by omega)).1⟩) rfl hl.1 rfl (Nat.le_of_ble_eq_true rfl) dX4_isCopyInOrder_13 ⟨Nat.zero_le _, Nat.zero_le _⟩ rfl ?_
  exact w_z (PB := fun H => Wc D cI cC ad S (N + 200) H) rfl (hW.mono (by omega)) hS hx hb hr hlocks dX4_isCopyInOrder_16
set_option maxHeartbeats 4000000 in
set_option maxRecDepth 100000 in
theorem k_isEqualInOppositeOrder (l : Launch) (D : va_G) (cI cC : ClassId) (ad : Nat → Nat) (S : St) (N : Nat) (b : Nat) (hb4 : b < 4) (hI : Inv S) (hN : N + 400 < 2 ^ 31) (hap : Ap ad 36) : Met l yX4_isEqualInOppositeOrder (ws_ yX4_isEqualInOppositeOrder cX4_isEqualInOppositeOrder 3 (some .boolean)) (rmN 4) (va_Pc [.ref (ad 0), .ref ((bk_ ad b) 0)] (pz D [(cI, .int), (cC, .char)] (fun H => Wc D cI cC ad S N H))) (Wq (some (.int (bI true))) (fun H => Wc D cI cC ad S (N + 200) H) (Ao ad 36)) 0 0 (Ao ad 36) := by
  refine m_start (by decide) (Nat.le_of_ble_eq_true rfl) ?_
  intro p e s m below meth c hx hb hr hG hown hlocks hml hB ls hl
  have hl : lv_has ls 3 [(0, .ref (ad 0)), (1, .ref ((bk_ ad b) 0))] := hl
  obtain ⟨hW, hK⟩ := hB
  have hS : va_S (Ao ad 36) s.heap s.heap [] := va_S.rf
  have hN2 := hI.1 b hb4
  obtain ⟨LS, hSp⟩ := hW.sp
  refine lv_aload_n hx hb dX4_isEqualInOppositeOrder_0 rfl (lv_at hl 0 rfl) ?_
  refine gf_X4_27 hx hb hG hown hK hW.x 0 rfl rfl dX4_isEqualInOppositeOrder_1 ?_
  refine k2_V hx hb hml hown hG cs_X4_61 (c_empty l D cI (bk_ ad 4) false 200 LS N (bk_Ap (by omega) hap)) (by decide) (pzV (hK.sub (tys' := [(cI, .int)]) [0] rfl) rfl hSp.1.rc hSp) rfl hl.1 rfl (Nat.le_of_ble_eq_true rfl) dX4_isEqualInOppositeOrder_4 ⟨Nat.zero_le _, Nat.zero_le _⟩ rfl hS (bk_Ao (by omega)) (fun H locs hB0 hz hk hS => ?_)
  have hW := hW.spare hap hk (M := N) (by omega) hB0
  have hSp := hB0
  refine lv_aload_n hx hb dX4_isEqualInOppositeOrder_7 rfl (lv_at hl 1 rfl) ?_
  refine gf_X4_57 hx hb hG hown hK (hW.bk (b := b) (by omega)).1.obj 0 rfl rfl dX4_isEqualInOppositeOrder_8 ?_
  have KK : ∀ (i : Nat), i ≤ (S.1 b).length → ∀ (H : Heap) (locs : List Loc), Wc D cI cC ad S (N + ((S.1 b).length - i)) H → BookAt D cI (bk_ ad 4) false 200 (rvL (S.1 b) ((S.1 b).length - i)) (N + ((S.1 b).length - i)) H → va_S (Ao ad 36) s.heap H locs → ∀ ls : Array Slot, lv_has ls 3 [(2, .int (dnI i)), (0, .ref (ad 0)), (1, .ref ((bk_ ad b) 0))] → W p l e (rmN 4) s m [.ref (ad 0), .ref ((bk_ ad b) 0)].toArray below meth c H locs 0 0 (MQ below (Wq (some (.int (bI true))) (fun H => Wc D cI cC ad S (N + 200) H) (Ao ad 36)) [.ref (ad 0), .ref ((bk_ ad b) 0)].toArray s 0 0 (Ao ad 36)) (F0 m 14 ls []) := by
    clear hW hSp hS hl
    intro i
    induction i with
    | zero =>
      intro h1 H locs hW hSp hS ls hl
      have hl : lv_has ls 3 [(2, .int ((-1))), (0, .ref (ad 0)), (1, .ref ((bk_ ad b) 0))] := hl
      rw [Nat.sub_zero] at hW hSp
      refine lv_iload_n hx hb dX4_isEqualInOppositeOrder_14 rfl (lv_at hl 0 rfl) ?_
      refine lv_if_lt (tgt := 41) hx hb dX4_isEqualInOppositeOrder_15 (by decide) (fun zc1 => ?_) (fun zc1 => False.elim (by first | omega | contradiction | exact absurd zc1 (m1_ne _ (by omega)) | exact absurd zc1 (by decide) | exact absurd (Eq.symm zc1) (m1_ne _ (by omega)) | (simp_all; done)))
      refine lv_aload_n hx hb dX4_isEqualInOppositeOrder_41 rfl (lv_at hl 1 rfl) ?_
      refine gf_X4_27 hx hb hG hown hK hW.x 0 rfl rfl dX4_isEqualInOppositeOrder_42 ?_
      refine lv_aload_n hx hb dX4_isEqualInOppositeOrder_45 rfl (lv_at hl 2 rfl) ?_
      have hcon := c_hasPairsOf l D cI (bk_ ad 4) (bk_ ad b) false 200 (rvL (S.1 b) (S.1 b).length) (lgO b) (bdO S b) (S.1 b)
      rw [rvL_eq hN2.1] at hcon
      refine k1_V hx hb hml hown hG cs_X4_184 hcon (by decide) (pzV (hK.sub (tys' := [(cI, .int)]) [0] rfl) rfl hSp.1.rc ⟨hSp.1, (hW.bk (b := b) (by omega)).1⟩) rfl hl.1 rfl (Nat.le_of_ble_eq_true rfl) dX4_isEqualInOppositeOrder_46 ⟨Nat.zero_le _, Nat.zero_le _⟩ rfl ?_
      refine x_ifb_eq (tgt := 70) hx hb dX4_isEqualInOppositeOrder_49 (by decide) (fun zc2 => False.elim (by first | exact absurd zc2 (by decide) | omega | (simp_all; done))) (fun zc2 => ?_)
      refine lv_aload_n hx hb dX4_isEqualInOppositeOrder_52 rfl (lv_at hl 1 rfl) ?_
      refine gf_X4_27 hx hb hG hown hK hW.x 0 rfl rfl dX4_isEqualInOppositeOrder_53 ?_
      refine k1_V hx hb hml hown hG cs_X4_191 (by have h := c_mixed l D cI (bk_ ad 4) false 200 (rvL (S.1 b) (S.1 b).length); rw [rvL_mix] at h; exact h) (by decide) (pzV (hK.sub (tys' := [(cI, .int)]) [0] rfl) rfl hSp.1.rc hSp.1) rfl hl.1 rfl (Nat.le_of_ble_eq_true rfl) dX4_isEqualInOppositeOrder_56 ⟨Nat.zero_le _, Nat.zero_le _⟩ rfl ?_
      refine lv_aload_n hx hb dX4_isEqualInOppositeOrder_59 rfl (lv_at hl 2 rfl) ?_
      refine k1_V hx hb hml hown hG cs_X4_191 (c_mixed l D cI (bk_ ad b) (lgO b) (bdO S b) (S.1 b)) (by decide) (pzV (hK.sub (tys' := [(cI, .int)]) [0] rfl) rfl (hW.bk (b := b) (by omega)).1.rc (hW.bk (b := b) (by omega)).1) rfl hl.1 rfl (Nat.le_of_ble_eq_true rfl) dX4_isEqualInOppositeOrder_60 ⟨Nat.zero_le _, Nat.zero_le _⟩ rfl ?_
      refine lv_icmp_ne (tgt := 70) hx hb dX4_isEqualInOppositeOrder_63 (by decide) (fun zc3 => False.elim (by first | exact absurd rfl zc3 | exact zc3 rfl)) (fun zc3 => ?_)
      refine lv_iconst (v := nI 1) hx hb dX4_isEqualInOppositeOrder_66 (by decide) ?_
      refine lv_goto (tgt := 71) hx hb dX4_isEqualInOppositeOrder_67 (by decide) ?_
      exact w_z (PB := fun H => Wc D cI cC ad S (N + 200) H) rfl (hW.mono (by omega)) hS hx hb hr hlocks dX4_isEqualInOppositeOrder_71
    | succ i ih =>
      intro h1 H locs hW hSp hS ls hl
      have hl : lv_has ls 3 [(2, .int (nI (i))), (0, .ref (ad 0)), (1, .ref ((bk_ ad b) 0))] := hl
      have eix : (S.1 b).length - 1 - ((S.1 b).length - (i + 1)) = i := by omega
      have hfn := rvL_fx hN2.1 (show (S.1 b).length - (i + 1) < (S.1 b).length by omega)
      rw [eix] at hfn
      refine lv_iload_n hx hb dX4_isEqualInOppositeOrder_14 rfl (lv_at hl 0 rfl) ?_
      refine lv_if_lt (tgt := 41) hx hb dX4_isEqualInOppositeOrder_15 (by decide) (fun zc4 => False.elim (by exact nI_nneg (by omega) zc4)) (fun zc4 => ?_)
      refine lv_aload_n hx hb dX4_isEqualInOppositeOrder_18 rfl (lv_at hl 1 rfl) ?_
      refine gf_X4_27 hx hb hG hown hK hW.x 0 rfl rfl dX4_isEqualInOppositeOrder_19 ?_
      refine lv_aload_n hx hb dX4_isEqualInOppositeOrder_22 rfl (lv_at hl 2 rfl) ?_
      refine lv_iload_n hx hb dX4_isEqualInOppositeOrder_23 rfl (lv_at hl 0 rfl) ?_
      refine k1_V hx hb hml hown hG cs_X4_132 (c_keyOn l D cI (bk_ ad b) (lgO b) (bdO S b) (S.1 b) i (by omega)) (by decide) (pzV (hK.sub (tys' := [(cI, .int)]) [0] rfl) rfl (hW.bk (b := b) (by omega)).1.rc (hW.bk (b := b) (by omega)).1) rfl hl.1 rfl (Nat.le_of_ble_eq_true rfl) dX4_isEqualInOppositeOrder_24 ⟨Nat.zero_le _, Nat.zero_le _⟩ rfl ?_
      refine lv_aload_n hx hb dX4_isEqualInOppositeOrder_27 rfl (lv_at hl 2 rfl) ?_
      refine lv_iload_n hx hb dX4_isEqualInOppositeOrder_28 rfl (lv_at hl 0 rfl) ?_
      refine k1_V hx hb hml hown hG cs_X4_93 (c_valueOn l D cI (bk_ ad b) (lgO b) (bdO S b) (S.1 b) i (by omega)) (by decide) (pzV (hK.sub (tys' := [(cI, .int)]) [0] rfl) rfl (hW.bk (b := b) (by omega)).1.rc (hW.bk (b := b) (by omega)).1) rfl hl.1 rfl (Nat.le_of_ble_eq_true rfl) dX4_isEqualInOppositeOrder_29 ⟨Nat.zero_le _, Nat.zero_le _⟩ rfl ?_
      refine k2_V hx hb hml hown hG cs_X4_90 (c_enter l D cI (bk_ ad 4) false 200 (rvL (S.1 b) ((S.1 b).length - (i + 1))) (N + ((S.1 b).length - (i + 1))) (kf (S.1 b) i) (vf (S.1 b) i) (rvL_ND hN2.1 _ (by omega)) hfn (by rw [rvL_len]; omega) (by omega) (by omega) (bk_Ap (by omega) hap)) (by decide) (pzV (hK.sub (tys' := [(cI, .int)]) [0] rfl) rfl hSp.1.rc hSp) rfl hl.1 rfl (Nat.le_of_ble_eq_true rfl) dX4_isEqualInOppositeOrder_32 ⟨Nat.zero_le _, Nat.zero_le _⟩ rfl hS (bk_Ao (by omega)) (fun H locs hB0 hz hk hS => ?_)
      have hB0 : BookAt D cI (bk_ ad 4) false 200 (rvL (S.1 b) ((S.1 b).length - i)) (N + ((S.1 b).length - i)) H := by
        rw [ent_plain] at hB0
        rw [show (S.1 b).length - i = ((S.1 b).length - (i + 1)) + 1 by omega, rvL, eix]
        exact hB0
      have hW := hW.spare hap hk (M := N + ((S.1 b).length - i)) (by omega) hB0
      have hSp := hB0
      refine lv_iinc (k := 0) (v := dnI i) (lv' := [(2, .int (dnI i)), (0, .ref (ad 0)), (1, .ref ((bk_ ad b) 0))]) hx hb dX4_isEqualInOppositeOrder_35 hl rfl (dnI_step _) (by decide) rfl (fun ls hl => ?_)
      refine lv_goto (tgt := 14) hx hb dX4_isEqualInOppositeOrder_38 (by decide) ?_
      exact ih (by omega) H locs hW hSp hS ls (lv_sub hl [0, 1, 2] rfl)
  have hlen := hN2.2
  rcases Nat.eq_zero_or_pos (S.1 b).length with e0 | e0
  · skip
    refine lv_iconst (v := nI 1) hx hb dX4_isEqualInOppositeOrder_11 (by decide) ?_
    refine x_isub (v := (nI ((S.1 b).length)) - (nI (1))) hx hb dX4_isEqualInOppositeOrder_12 rfl ?_
    refine lv_istore_n (lv' := [(2, .int ((nI ((S.1 b).length)) - (nI (1)))), (0, .ref (ad 0)), (1, .ref ((bk_ ad b) 0))]) hx hb dX4_isEqualInOppositeOrder_13 rfl hl (by decide) rfl (fun ls hl => ?_)
    have hW9 : Wc D cI cC ad S (N + ((S.1 b).length - (S.1 b).length)) H := by rw [Nat.sub_self]; exact hW
    have hS9 : BookAt D cI (bk_ ad 4) false 200 (rvL (S.1 b) ((S.1 b).length - (S.1 b).length)) (N + ((S.1 b).length - (S.1 b).length)) H := by rw [Nat.sub_self]; exact hSp
    exact KK (S.1 b).length (Nat.le_refl _) H locs hW9 hS9 hS ls (by rw [e0] at hl ⊢; exact (lv_sub hl [0, 1, 2] rfl))
  · skip
    refine lv_iconst (v := nI 1) hx hb dX4_isEqualInOppositeOrder_11 (by decide) ?_
    refine x_isub (v := nI (((S.1 b).length) - 1)) hx hb dX4_isEqualInOppositeOrder_12 (pk_sub (by omega)) ?_
    refine lv_istore_n (lv' := [(2, .int (nI (((S.1 b).length) - 1))), (0, .ref (ad 0)), (1, .ref ((bk_ ad b) 0))]) hx hb dX4_isEqualInOppositeOrder_13 rfl hl (by decide) rfl (fun ls hl => ?_)
    have hW9 : Wc D cI cC ad S (N + ((S.1 b).length - (S.1 b).length)) H := by rw [Nat.sub_self]; exact hW
    have hS9 : BookAt D cI (bk_ ad 4) false 200 (rvL (S.1 b) ((S.1 b).length - (S.1 b).length)) (N + ((S.1 b).length - (S.1 b).length)) H := by rw [Nat.sub_self]; exact hSp
    exact KK (S.1 b).length (Nat.le_refl _) H locs hW9 hS9 hS ls (by rw [show dnI (S.1 b).length = nI ((S.1 b).length - 1) from by obtain ⟨m, hm⟩ : ∃ m, (S.1 b).length = m + 1 := ⟨(S.1 b).length - 1, by omega⟩; rw [hm]; rfl]; exact (lv_sub hl [0, 1, 2] rfl))
set_option maxHeartbeats 4000000 in
set_option maxRecDepth 100000 in
theorem k_isAsTheTheoremTells (l : Launch) (D : va_G) (cI cC : ClassId) (ad : Nat → Nat) (S : St) (N : Nat) (b : Nat) (hb4 : b < 4) (hI : Inv S) (hN : N + 800 < 2 ^ 31) (hap : Ap ad 36) : Met l yX4_isAsTheTheoremTells (ws_ yX4_isAsTheTheoremTells cX4_isAsTheTheoremTells 2 (some .boolean)) (rmN 6) (va_Pc [.ref (ad 0), .ref ((bk_ ad b) 0)] (pz D [(cI, .int), (cC, .char)] (fun H => Wc D cI cC ad S N H))) (Wq (some (.int (bI true))) (fun H => Wc D cI cC ad S (N + 400) H) (Ao ad 36)) 0 0 (Ao ad 36) := by
  refine m_start (by decide) (Nat.le_of_ble_eq_true rfl) ?_
  intro p e s m below meth c hx hb hr hG hown hlocks hml hB ls hl
  have hl : lv_has ls 2 [(0, .ref (ad 0)), (1, .ref ((bk_ ad b) 0))] := hl
  obtain ⟨hW, hK⟩ := hB
  have hS : va_S (Ao ad 36) s.heap s.heap [] := va_S.rf
  have hN2 := hI.1 b hb4
  obtain ⟨hBk, R, now, hAr, hT⟩ := hW.bk (b := b) hb4
  refine lv_aload_n hx hb dX4_isAsTheTheoremTells_0 rfl (lv_at hl 1 rfl) ?_
  refine gf_X4_220 hx hb hG hown hK (hW.bk (b := b) (by omega)).1.obj 0 rfl rfl dX4_isAsTheTheoremTells_1 ?_
  refine lv_aload_n hx hb dX4_isAsTheTheoremTells_4 rfl (lv_at hl 1 rfl) ?_
  refine k1_V hx hb hml hown hG cs_X4_224 (c_tellOf l D cI (bk_ ad b) (lgO b) (bdO S b) (S.1 b) R now N hN2.1 hT) (by decide) (pzV (hK.sub (tys' := [(cI, .int)]) [0] rfl) rfl hAr.rc ⟨hBk, hAr⟩) rfl hl.1 rfl (Nat.le_of_ble_eq_true rfl) dX4_isAsTheTheoremTells_5 ⟨Nat.zero_le _, Nat.zero_le _⟩ rfl ?_
  refine x_ifb_eq (tgt := 31) hx hb dX4_isAsTheTheoremTells_8 (by decide) (fun zc1 => False.elim (by first | exact absurd zc1 (by decide) | omega | (simp_all; done))) (fun zc1 => ?_)
  refine lv_aload_n hx hb dX4_isAsTheTheoremTells_11 rfl (lv_at hl 0 rfl) ?_
  refine lv_aload_n hx hb dX4_isAsTheTheoremTells_12 rfl (lv_at hl 1 rfl) ?_
  refine k2_V hx hb hml hown hG cs_X4_229 (k_isCopyInOrder l D cI cC ad S N b hb4 hI (by omega) hap) (by decide) (pzV hK rfl hW.rc hW) rfl hl.1 rfl (Nat.le_of_ble_eq_true rfl) dX4_isAsTheTheoremTells_13 ⟨Nat.zero_le _, Nat.zero_le _⟩ rfl hS (fun q h => h) (fun H locs hW hz hk hS => ?_)
  refine x_ifb_eq (tgt := 31) hx hb dX4_isAsTheTheoremTells_16 (by decide) (fun zc2 => False.elim (by first | exact absurd zc2 (by decide) | omega | (simp_all; done))) (fun zc2 => ?_)
  refine lv_aload_n hx hb dX4_isAsTheTheoremTells_19 rfl (lv_at hl 0 rfl) ?_
  refine lv_aload_n hx hb dX4_isAsTheTheoremTells_20 rfl (lv_at hl 1 rfl) ?_
  refine k2_V hx hb hml hown hG cs_X4_232 (k_isEqualInOppositeOrder l D cI cC ad S (N + 200) b hb4 hI (by omega) hap) (by decide) (pzV hK rfl hW.rc hW) rfl hl.1 rfl (Nat.le_of_ble_eq_true rfl) dX4_isAsTheTheoremTells_21 ⟨Nat.zero_le _, Nat.zero_le _⟩ rfl hS (fun q h => h) (fun H locs hW hz hk hS => ?_)
  refine x_ifb_eq (tgt := 31) hx hb dX4_isAsTheTheoremTells_24 (by decide) (fun zc3 => False.elim (by first | exact absurd zc3 (by decide) | omega | (simp_all; done))) (fun zc3 => ?_)
  refine lv_iconst (v := nI 1) hx hb dX4_isAsTheTheoremTells_27 (by decide) ?_
  refine lv_goto (tgt := 32) hx hb dX4_isAsTheTheoremTells_28 (by decide) ?_
  exact w_z (PB := fun H => Wc D cI cC ad S (N + 400) H) rfl (hW.mono (by omega)) hS hx hb hr hlocks dX4_isAsTheTheoremTells_32
set_option maxHeartbeats 4000000 in
set_option maxRecDepth 100000 in
theorem ok_errors (l : Launch) (D : va_G) (cI cC : ClassId) (ad : Nat → Nat) (S : St) (N : Nat) (hI : Inv S) (hN : N + 2000 < 2 ^ 31) (hap : Ap ad 36) (hok : (sp_errors S).1 = 0) : Met l yX4_errors (ws_ yX4_errors cX4_errors 3 (some .int)) (rmN 7) (va_Pc [.ref (ad 0)] (pz D [(cI, .int), (cC, .char)] (fun H => Wc D cI cC ad S N H))) (Wq (some (.int (sp_errors S).2.1)) (fun H => Wc D cI cC ad (sp_errors S).2.2 (N + 2000) H) (Ao ad 36)) 0 0 (Ao ad 36) := by
  have hbd2 : S.2.1 ≤ 40 := hI.2.2.2.1
  have hCC : ∀ cu, cu < 3 → ∀ y, S.2.2.1 cu = some y → y.1 < 4 := fun cu hcu y hy => by have h := hI.2.2.2.2.1 cu hcu; rw [hy] at h; exact h.1
  have e9 : sp_errors S = (0, 0, S) := rfl
  rw [e9]
  refine m_start (by decide) (Nat.le_of_ble_eq_true rfl) ?_
  intro p e s m below meth c hx hb hr hG hown hlocks hml hB ls hl
  have hl : lv_has ls 3 [(0, .ref (ad 0))] := hl
  obtain ⟨hW, hK⟩ := hB
  have hS : va_S (Ao ad 36) s.heap s.heap [] := va_S.rf
  refine lv_iconst (v := nI 0) hx hb dX4_errors_0 (by decide) ?_
  refine lv_istore_n (lv' := [(1, .int (nI (0))), (0, .ref (ad 0))]) hx hb dX4_errors_1 rfl hl (by decide) rfl (fun ls hl => ?_)
  refine lv_iconst (v := nI 0) hx hb dX4_errors_2 (by decide) ?_
  refine lv_istore_n (lv' := [(2, .int (nI (0))), (1, .int (nI (0))), (0, .ref (ad 0))]) hx hb dX4_errors_3 rfl hl (by decide) rfl (fun ls hl => ?_)
  suffices KK : ∀ (n i : Nat), 4 < i + n → i ≤ 4 → ∀ (H : Heap) (locs : List Loc), Wc D cI cC ad S (N + 400 * i) H → va_S (Ao ad 36) s.heap H locs → ∀ ls : Array Slot, lv_has ls 3 [(2, .int (nI (i))), (1, .int (nI (0))), (0, .ref (ad 0))] → W p l e (rmN 7) s m [.ref (ad 0)].toArray below meth c H locs 0 0 (MQ below (Wq (some (.int 0)) (fun H => Wc D cI cC ad S (N + 2000) H) (Ao ad 36)) [.ref (ad 0)].toArray s 0 0 (Ao ad 36)) (F0 m 4 ls []) from KK (4 + 1) 0 (by omega) (by omega) s.heap [] hW hS ls (lv_sub hl [0, 1, 2] rfl)
  clear hW hS hl
  intro n
  induction n with
  | zero => intro i h1 h2; omega
  | succ n ih =>
    intro i h1 h2 H locs hW hS ls hl
    refine lv_iload_n hx hb dX4_errors_4 rfl (lv_at hl 0 rfl) ?_
    refine lv_iconst (v := nI 4) hx hb dX4_errors_5 (by decide) ?_
    refine x_cmp_ge (tgt := 30) hx hb dX4_errors_6 (by decide) (by omega) (by omega) (fun c1 => ?_) (fun c1 => ?_)
    · refine lv_iload_n hx hb dX4_errors_30 rfl (lv_at hl 1 rfl) ?_
      exact w_i (PB := (fun H => Wc D cI cC ad S (N + 2000) H)) rfl (hW.mono (by omega)) hS hx hb hr hlocks dX4_errors_31
    · refine lv_aload_n hx hb dX4_errors_9 rfl (lv_at hl 2 rfl) ?_
      refine lv_aload_n hx hb dX4_errors_10 rfl (lv_at hl 2 rfl) ?_
      refine lv_iload_n hx hb dX4_errors_11 rfl (lv_at hl 0 rfl) ?_
      refine k1_V hx hb hml hown hG cs_X4_113 (k_bookOfNumber l D cI cC ad S (N + 400 * i) i (by omega)) (by decide) (pzV hK rfl hW.rc hW) rfl hl.1 rfl (Nat.le_of_ble_eq_true rfl) dX4_errors_12 ⟨Nat.zero_le _, Nat.zero_le _⟩ rfl ?_
      refine k2_V hx hb hml hown hG cs_X4_217 (k_isAsTheTheoremTells l D cI cC ad S (N + 400 * i) i (by omega) hI (by omega) hap) (by decide) (pzV hK rfl hW.rc hW) rfl hl.1 rfl (Nat.le_of_ble_eq_true rfl) dX4_errors_15 ⟨Nat.zero_le _, Nat.zero_le _⟩ rfl hS (fun q h => h) (fun H locs hW hz hk hS => ?_)
      refine x_ifb_ne (tgt := 24) hx hb dX4_errors_18 (by decide) (fun zc1 => ?_) (fun zc1 => False.elim (by first | exact absurd zc1 (by decide) | omega | (simp_all; done)))
      refine x_iinc (k := 0) (lv' := [(2, .int (nI (i + 1))), (1, .int (nI (0))), (0, .ref (ad 0))]) hx hb dX4_errors_24 hl rfl (by decide) rfl (fun ls hl => ?_)
      refine lv_goto (tgt := 4) hx hb dX4_errors_27 (by decide) ?_
      exact ih (i + 1) (by omega) (by omega) H locs (hW.mono (by omega)) hS ls (lv_sub hl [0, 1, 2] rfl)
