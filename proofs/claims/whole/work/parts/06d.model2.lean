section EL
variable {p : Program} {l : Launch} {e : Env} {R : Room} {s : State} {m : MethodId} {args : Array Value} {below : List Frame} {meth : Method} {c : Code} {H : Heap} {locs : List Loc} {cells slots : Nat}
variable {cc : ByteArray} {pc : Nat} {ls : Array Slot} {A : Nat → Prop} {PB : Heap → Prop}
theorem w_l {v v0 : Int64} (hv : v = v0) (hPB : PB H) (hS : va_S A s.heap H locs) (hx : p.tables.exec = Jvm.exec) (hb : c.code = cc) (hr : meth.sig.returnType = some .long) (hlocks : meth.locks = false) (hdg : decode cc pc = .ok (.lreturn, 1)) : W p l e R s m args below meth c H locs cells slots (MQ below (Wq (some (.long v0)) PB A) args s cells slots A) (F0 m pc ls [.long v]) := by
  subst hv
  exact W.lret hx hb hr (fun t ht _ => ⟨rfl, by rw [ht]; exact hPB, hS.F ht⟩) hS.2.2 hdg hlocks
theorem w_d {v v0 : UInt64} (hv : v = v0) (hPB : PB H) (hS : va_S A s.heap H locs) (hx : p.tables.exec = Jvm.exec) (hb : c.code = cc) (hr : meth.sig.returnType = some .double) (hlocks : meth.locks = false) (hdg : decode cc pc = .ok (.dreturn, 1)) : W p l e R s m args below meth c H locs cells slots (MQ below (Wq (some (.double v0)) PB A) args s cells slots A) (F0 m pc ls [.double v]) := by
  subst hv
  exact W.dret hx hb hr (fun t ht _ => ⟨rfl, by rw [ht]; exact hPB, hS.F ht⟩) hS.2.2 hdg hlocks
theorem w_f {v v0 : UInt32} (hv : v = v0) (hPB : PB H) (hS : va_S A s.heap H locs) (hx : p.tables.exec = Jvm.exec) (hb : c.code = cc) (hr : meth.sig.returnType = some .float) (hlocks : meth.locks = false) (hdg : decode cc pc = .ok (.freturn, 1)) : W p l e R s m args below meth c H locs cells slots (MQ below (Wq (some (.float v0)) PB A) args s cells slots A) (F0 m pc ls [.float v]) := by
  subst hv
  exact W.fret hx hb hr (fun t ht _ => ⟨rfl, by rw [ht]; exact hPB, hS.F ht⟩) hS.2.2 hdg hlocks
end EL
theorem fx_era {L : Bk} (h : ND L) {i : Nat} (hi : i < L.length) : fx (L.eraseIdx i) (kf L i) = none := fx_no (fun j hj => by
  rw [era_len hi] at hj
  rw [kf_era]
  split
  · exact h j i (by omega) hi
  · exact fun e => h i (j + 1) (by omega) (by omega) e.symm)
theorem clB_1 (S : St) (b : Nat) (L : Bk) (but : Int32) : (clB (upB S b L) b but).1 b = L := upB_at S b L
theorem clB_0 (S : St) (b : Nat) (but : Int32) : (clB S b but).1 = S.1 := rfl
set_option maxHeartbeats 4000000 in
set_option maxRecDepth 100000 in
theorem m_put (l : Launch) (D : va_G) (cI cZ : ClassId) (d : Nat → Nat) (S : St) (th : Int32) (x key v : Int32) (hI : Inv S) (hap : Ap d 9) : Met l yX5_put (ws_ yX5_put cX5_put 5 (some .boolean)) (rmN 4) (va_Pc [.ref (d 0), .int x, .int key, .int v] (pz D [(cI, .int), (cZ, .boolean)] (fun H => MdAt D cI cZ d S th H))) (Wq (some (.int (bI (sp_put S x key v).2.1))) (fun H => MdAt D cI cZ d (sp_put S x key v).2.2 (nI (sp_put S x key v).1) H) (Ao d 9)) 0 0 (Ao d 9) := by
  have hbd2 : S.2.1 ≤ 40 := hI.2.2.2.1
  have hCC : ∀ cu, cu < 3 → ∀ y, S.2.2.1 cu = some y → y.1 < 4 := fun cu hcu y hy => by have h := hI.2.2.2.2.1 cu hcu; rw [hy] at h; exact h.1
  rcases bkn_cases 4 (by decide) x with ⟨b, hb4, rfl, hbk⟩ | ⟨hbk, hno⟩
  · have hN := hI.1 b hb4
    by_cases h3 : b = 3
    · subst h3
      have e9 : sp_put S (nI (3)) key v = (2, false, S) := by simp [sp_put, hbk]
      rw [e9]
      refine m_start (by decide) (Nat.le_of_ble_eq_true rfl) ?_
      intro p e s m below meth c hx hb hr hG hown hlocks hml hB ls hl
      have hl : lv_has ls 5 [(0, .ref (d 0)), (1, .int (nI (3))), (2, .int (key)), (3, .int (v))] := hl
      obtain ⟨hB0, hK⟩ := hB
      have hS : va_S (Ao d 9) s.heap s.heap [] := va_S.rf
      refine lv_iload_n hx hb dX5_put_0 rfl (lv_at hl 1 rfl) ?_
      refine k1_S hx hb hml hown hG cs_X5_68 (by have h := c5_isBook l D (nI (3)); rw [rch_in (by omega) (by decide)] at h; exact h) (by decide) (pzS (hK.sub (tys' := []) [] rfl) trivial) rfl hl.1 rfl (Nat.le_of_ble_eq_true rfl) dX5_put_1 ⟨Nat.zero_le _, Nat.zero_le _⟩ rfl ?_
      refine x_ifb_ne (tgt := 13) hx hb dX5_put_4 (by decide) (fun zc1 => ?_) (fun zc1 => False.elim (by first | exact absurd zc1 (by decide) | omega | (simp_all; done)))
      refine lv_iload_n hx hb dX5_put_13 rfl (lv_at hl 1 rfl) ?_
      refine lv_iconst (v := nI 3) hx hb dX5_put_14 (by decide) ?_
      refine x_cmp_ne (tgt := 24) hx hb dX5_put_15 (by decide) (by omega) (by omega) (fun zc2 => False.elim (by first | exact absurd zc2 (by decide) | omega | (simp_all; done))) (fun zc2 => ?_)
      refine lv_aload_n hx hb dX5_put_18 rfl (lv_at hl 0 rfl) ?_
      refine lv_iconst (v := nI 2) hx hb dX5_put_19 (by decide) ?_
      refine k2_V hx hb hml hown hG cs_X5_72 (c5_denies l D cI cZ d S th 2 hap) (by decide) (pzV hK rfl hB0.rc hB0) rfl hl.1 rfl (Nat.le_of_ble_eq_true rfl) dX5_put_20 ⟨Nat.zero_le _, Nat.zero_le _⟩ rfl hS (fun q h => h) (fun H locs hB0 hz hk hS => ?_)
      exact w_z (PB := (fun H => MdAt D cI cZ d S (nI 2) H)) rfl hB0 hS hx hb hr hlocks dX5_put_23
    · skip
      cases hfu : full S b key with
      | true =>
        have e9 : sp_put S (nI (b)) key v = (3, false, S) := by simp [sp_put, hbk, h3, hfu]
        rw [e9]
        refine m_start (by decide) (Nat.le_of_ble_eq_true rfl) ?_
        intro p e s m below meth c hx hb hr hG hown hlocks hml hB ls hl
        have hl : lv_has ls 5 [(0, .ref (d 0)), (1, .int (nI (b))), (2, .int (key)), (3, .int (v))] := hl
        obtain ⟨hB0, hK⟩ := hB
        have hS : va_S (Ao d 9) s.heap s.heap [] := va_S.rf
        refine lv_iload_n hx hb dX5_put_0 rfl (lv_at hl 1 rfl) ?_
        refine k1_S hx hb hml hown hG cs_X5_68 (by have h := c5_isBook l D (nI (b)); rw [rch_in (by omega) (by decide)] at h; exact h) (by decide) (pzS (hK.sub (tys' := []) [] rfl) trivial) rfl hl.1 rfl (Nat.le_of_ble_eq_true rfl) dX5_put_1 ⟨Nat.zero_le _, Nat.zero_le _⟩ rfl ?_
        refine x_ifb_ne (tgt := 13) hx hb dX5_put_4 (by decide) (fun zc1 => ?_) (fun zc1 => False.elim (by first | exact absurd zc1 (by decide) | omega | (simp_all; done)))
        refine lv_iload_n hx hb dX5_put_13 rfl (lv_at hl 1 rfl) ?_
        refine lv_iconst (v := nI 3) hx hb dX5_put_14 (by decide) ?_
        refine x_cmp_ne (tgt := 24) hx hb dX5_put_15 (by decide) (by omega) (by omega) (fun zc2 => ?_) (fun zc2 => False.elim (by first | omega | contradiction | exact absurd zc2 (m1_ne _ (by omega)) | exact absurd zc2 (by decide) | exact absurd (Eq.symm zc2) (m1_ne _ (by omega)) | (simp_all; done)))
        refine lv_aload_n hx hb dX5_put_24 rfl (lv_at hl 0 rfl) ?_
        refine lv_iload_n hx hb dX5_put_25 rfl (lv_at hl 1 rfl) ?_
        refine lv_iload_n hx hb dX5_put_26 rfl (lv_at hl 2 rfl) ?_
        refine k1_V hx hb hml hown hG cs_X5_75 (by have h := c5_isFull l D cI cZ d S th b key (by omega); rw [hfu] at h; exact h) (by decide) (pzV hK rfl hB0.rc hB0) rfl hl.1 rfl (Nat.le_of_ble_eq_true rfl) dX5_put_27 ⟨Nat.zero_le _, Nat.zero_le _⟩ rfl ?_
        refine x_ifb_eq (tgt := 39) hx hb dX5_put_30 (by decide) (fun zc3 => False.elim (by first | exact absurd zc3 (by decide) | omega | (simp_all; done))) (fun zc3 => ?_)
        refine lv_aload_n hx hb dX5_put_33 rfl (lv_at hl 0 rfl) ?_
        refine lv_iconst (v := nI 3) hx hb dX5_put_34 (by decide) ?_
        refine k2_V hx hb hml hown hG cs_X5_72 (c5_denies l D cI cZ d S th 3 hap) (by decide) (pzV hK rfl hB0.rc hB0) rfl hl.1 rfl (Nat.le_of_ble_eq_true rfl) dX5_put_35 ⟨Nat.zero_le _, Nat.zero_le _⟩ rfl hS (fun q h => h) (fun H locs hB0 hz hk hS => ?_)
        exact w_z (PB := (fun H => MdAt D cI cZ d S (nI 3) H)) rfl hB0 hS hx hb hr hlocks dX5_put_38
      | false =>
        cases hf : fx (S.1 b) key with
        | none =>
          have e9 : sp_put S (nI (b)) key v = (0, false, clB (upB S b (stq (lgO b) S.2.1 (S.1 b) key v)) b (-1)) := by simp [sp_put, hbk, h3, hfu, hf]
          rw [e9]
          refine m_start (by decide) (Nat.le_of_ble_eq_true rfl) ?_
          intro p e s m below meth c hx hb hr hG hown hlocks hml hB ls hl
          have hl : lv_has ls 5 [(0, .ref (d 0)), (1, .int (nI (b))), (2, .int (key)), (3, .int (v))] := hl
          obtain ⟨hB0, hK⟩ := hB
          have hS : va_S (Ao d 9) s.heap s.heap [] := va_S.rf
          refine lv_iload_n hx hb dX5_put_0 rfl (lv_at hl 1 rfl) ?_
          refine k1_S hx hb hml hown hG cs_X5_68 (by have h := c5_isBook l D (nI (b)); rw [rch_in (by omega) (by decide)] at h; exact h) (by decide) (pzS (hK.sub (tys' := []) [] rfl) trivial) rfl hl.1 rfl (Nat.le_of_ble_eq_true rfl) dX5_put_1 ⟨Nat.zero_le _, Nat.zero_le _⟩ rfl ?_
          refine x_ifb_ne (tgt := 13) hx hb dX5_put_4 (by decide) (fun zc1 => ?_) (fun zc1 => False.elim (by first | exact absurd zc1 (by decide) | omega | (simp_all; done)))
          refine lv_iload_n hx hb dX5_put_13 rfl (lv_at hl 1 rfl) ?_
          refine lv_iconst (v := nI 3) hx hb dX5_put_14 (by decide) ?_
          refine x_cmp_ne (tgt := 24) hx hb dX5_put_15 (by decide) (by omega) (by omega) (fun zc2 => ?_) (fun zc2 => False.elim (by first | omega | contradiction | exact absurd zc2 (m1_ne _ (by omega)) | exact absurd zc2 (by decide) | exact absurd (Eq.symm zc2) (m1_ne _ (by omega)) | (simp_all; done)))
          refine lv_aload_n hx hb dX5_put_24 rfl (lv_at hl 0 rfl) ?_
          refine lv_iload_n hx hb dX5_put_25 rfl (lv_at hl 1 rfl) ?_
          refine lv_iload_n hx hb dX5_put_26 rfl (lv_at hl 2 rfl) ?_
          refine k1_V hx hb hml hown hG cs_X5_75 (by have h := c5_isFull l D cI cZ d S th b key (by omega); rw [hfu] at h; exact h) (by decide) (pzV hK rfl hB0.rc hB0) rfl hl.1 rfl (Nat.le_of_ble_eq_true rfl) dX5_put_27 ⟨Nat.zero_le _, Nat.zero_le _⟩ rfl ?_
          refine x_ifb_eq (tgt := 39) hx hb dX5_put_30 (by decide) (fun zc3 => ?_) (fun zc3 => False.elim (by first | exact absurd zc3 (by decide) | omega | (simp_all; done)))
          refine lv_aload_n hx hb dX5_put_39 rfl (lv_at hl 0 rfl) ?_
          refine lv_iload_n hx hb dX5_put_40 rfl (lv_at hl 1 rfl) ?_
          refine lv_iload_n hx hb dX5_put_41 rfl (lv_at hl 2 rfl) ?_
          refine k1_V hx hb hml hown hG cs_X5_50 (by have h := c5_place l D cI cZ d S th b key (by omega); rw [hf] at h; exact h) (by decide) (pzV hK rfl hB0.rc hB0) rfl hl.1 rfl (Nat.le_of_ble_eq_true rfl) dX5_put_42 ⟨Nat.zero_le _, Nat.zero_le _⟩ rfl ?_
          refine lv_iconst (v := (-1)) hx hb dX5_put_45 (by decide) ?_
          refine lv_icmp_eq (tgt := 53) hx hb dX5_put_46 (by decide) (fun zc4 => ?_) (fun zc4 => False.elim (by first | exact absurd zc4 (by decide) | omega | (simp_all; done)))
          refine lv_iconst (v := nI 0) hx hb dX5_put_53 (by decide) ?_
          refine lv_istore (lv' := [(4, .int (nI (0))), (0, .ref (d 0)), (1, .int (nI (b))), (2, .int (key)), (3, .int (v))]) hx hb dX5_put_54 hl (by decide) rfl (fun ls hl => ?_)
          refine lv_aload_n hx hb dX5_put_56 rfl (lv_at hl 1 rfl) ?_
          refine lv_iload_n hx hb dX5_put_57 rfl (lv_at hl 2 rfl) ?_
          refine lv_iload_n hx hb dX5_put_58 rfl (lv_at hl 3 rfl) ?_
          refine lv_iload_n hx hb dX5_put_59 rfl (lv_at hl 4 rfl) ?_
          refine k2_V hx hb hml hown hG cs_X5_79 (c5_puts_no l D cI cZ d S th b key v (by omega) hap hf (hN.2) (by omega)) (by decide) (pzV hK rfl hB0.rc hB0) rfl hl.1 rfl (Nat.le_of_ble_eq_true rfl) dX5_put_60 ⟨Nat.zero_le _, Nat.zero_le _⟩ rfl hS (fun q h => h) (fun H locs hB0 hz hk hS => ?_)
          refine lv_aload_n hx hb dX5_put_63 rfl (lv_at hl 1 rfl) ?_
          refine lv_iload_n hx hb dX5_put_64 rfl (lv_at hl 2 rfl) ?_
          refine lv_iconst (v := (-1)) hx hb dX5_put_65 (by decide) ?_
          refine k2_V hx hb hml hown hG cs_X5_62 (c5_closes l D cI cZ d (upB S b (stq (lgO b) S.2.1 (S.1 b) key v)) th b (-1) (by omega) hCC hap) (by decide) (pzV hK rfl hB0.rc hB0) rfl hl.1 rfl (Nat.le_of_ble_eq_true rfl) dX5_put_66 ⟨Nat.zero_le _, Nat.zero_le _⟩ rfl hS (fun q h => h) (fun H locs hB0 hz hk hS => ?_)
          refine lv_aload_n hx hb dX5_put_69 rfl (lv_at hl 1 rfl) ?_
          refine lv_iload hx hb dX5_put_70 (lv_at hl 0 rfl) ?_
          refine k2_V hx hb hml hown hG cs_X5_82 (c5_says l D cI cZ d (clB (upB S b (stq (lgO b) S.2.1 (S.1 b) key v)) b (-1)) th false hap) (by decide) (pzV hK rfl hB0.rc hB0) rfl hl.1 rfl (Nat.le_of_ble_eq_true rfl) dX5_put_72 ⟨Nat.zero_le _, Nat.zero_le _⟩ rfl hS (fun q h => h) (fun H locs hB0 hz hk hS => ?_)
          exact w_z (PB := (fun H => MdAt D cI cZ d (clB (upB S b (stq (lgO b) S.2.1 (S.1 b) key v)) b (-1)) (nI 0) H)) rfl hB0 hS hx hb hr hlocks dX5_put_75
        | some i =>
          have hi := (fx_some hf).1
          have e9 : sp_put S (nI (b)) key v = (0, true, clB (upB S b (stq (lgO b) S.2.1 (S.1 b) key v)) b (-1)) := by simp [sp_put, hbk, h3, hfu, hf]
          rw [e9]
          refine m_start (by decide) (Nat.le_of_ble_eq_true rfl) ?_
          intro p e s m below meth c hx hb hr hG hown hlocks hml hB ls hl
          have hl : lv_has ls 5 [(0, .ref (d 0)), (1, .int (nI (b))), (2, .int (key)), (3, .int (v))] := hl
          obtain ⟨hB0, hK⟩ := hB
          have hS : va_S (Ao d 9) s.heap s.heap [] := va_S.rf
          refine lv_iload_n hx hb dX5_put_0 rfl (lv_at hl 1 rfl) ?_
          refine k1_S hx hb hml hown hG cs_X5_68 (by have h := c5_isBook l D (nI (b)); rw [rch_in (by omega) (by decide)] at h; exact h) (by decide) (pzS (hK.sub (tys' := []) [] rfl) trivial) rfl hl.1 rfl (Nat.le_of_ble_eq_true rfl) dX5_put_1 ⟨Nat.zero_le _, Nat.zero_le _⟩ rfl ?_
          refine x_ifb_ne (tgt := 13) hx hb dX5_put_4 (by decide) (fun zc1 => ?_) (fun zc1 => False.elim (by first | exact absurd zc1 (by decide) | omega | (simp_all; done)))
          refine lv_iload_n hx hb dX5_put_13 rfl (lv_at hl 1 rfl) ?_
          refine lv_iconst (v := nI 3) hx hb dX5_put_14 (by decide) ?_
          refine x_cmp_ne (tgt := 24) hx hb dX5_put_15 (by decide) (by omega) (by omega) (fun zc2 => ?_) (fun zc2 => False.elim (by first | omega | contradiction | exact absurd zc2 (m1_ne _ (by omega)) | exact absurd zc2 (by decide) | exact absurd (Eq.symm zc2) (m1_ne _ (by omega)) | (simp_all; done)))
          refine lv_aload_n hx hb dX5_put_24 rfl (lv_at hl 0 rfl) ?_
          refine lv_iload_n hx hb dX5_put_25 rfl (lv_at hl 1 rfl) ?_
          refine lv_iload_n hx hb dX5_put_26 rfl (lv_at hl 2 rfl) ?_
          refine k1_V hx hb hml hown hG cs_X5_75 (by have h := c5_isFull l D cI cZ d S th b key (by omega); rw [hfu] at h; exact h) (by decide) (pzV hK rfl hB0.rc hB0) rfl hl.1 rfl (Nat.le_of_ble_eq_true rfl) dX5_put_27 ⟨Nat.zero_le _, Nat.zero_le _⟩ rfl ?_
          refine x_ifb_eq (tgt := 39) hx hb dX5_put_30 (by decide) (fun zc3 => ?_) (fun zc3 => False.elim (by first | exact absurd zc3 (by decide) | omega | (simp_all; done)))
          refine lv_aload_n hx hb dX5_put_39 rfl (lv_at hl 0 rfl) ?_
          refine lv_iload_n hx hb dX5_put_40 rfl (lv_at hl 1 rfl) ?_
          refine lv_iload_n hx hb dX5_put_41 rfl (lv_at hl 2 rfl) ?_
          refine k1_V hx hb hml hown hG cs_X5_50 (by have h := c5_place l D cI cZ d S th b key (by omega); rw [hf] at h; exact h) (by decide) (pzV hK rfl hB0.rc hB0) rfl hl.1 rfl (Nat.le_of_ble_eq_true rfl) dX5_put_42 ⟨Nat.zero_le _, Nat.zero_le _⟩ rfl ?_
          refine lv_iconst (v := (-1)) hx hb dX5_put_45 (by decide) ?_
          refine lv_icmp_eq (tgt := 53) hx hb dX5_put_46 (by decide) (fun zc4 => False.elim (by first | omega | contradiction | exact absurd zc4 (m1_ne _ (by omega)) | exact absurd zc4 (by decide) | exact absurd (Eq.symm zc4) (m1_ne _ (by omega)) | (simp_all; done))) (fun zc4 => ?_)
          refine lv_iconst (v := nI 1) hx hb dX5_put_49 (by decide) ?_
          refine lv_goto (tgt := 54) hx hb dX5_put_50 (by decide) ?_
          refine lv_istore (lv' := [(4, .int (nI (1))), (0, .ref (d 0)), (1, .int (nI (b))), (2, .int (key)), (3, .int (v))]) hx hb dX5_put_54 hl (by decide) rfl (fun ls hl => ?_)
          refine lv_aload_n hx hb dX5_put_56 rfl (lv_at hl 1 rfl) ?_
          refine lv_iload_n hx hb dX5_put_57 rfl (lv_at hl 2 rfl) ?_
          refine lv_iload_n hx hb dX5_put_58 rfl (lv_at hl 3 rfl) ?_
          refine lv_iload_n hx hb dX5_put_59 rfl (lv_at hl 4 rfl) ?_
          refine k2_V hx hb hml hown hG cs_X5_79 (c5_puts_at l D cI cZ d S th b key v (by omega) hap i hf) (by decide) (pzV hK rfl hB0.rc hB0) rfl hl.1 rfl (Nat.le_of_ble_eq_true rfl) dX5_put_60 ⟨Nat.zero_le _, Nat.zero_le _⟩ rfl hS (fun q h => h) (fun H locs hB0 hz hk hS => ?_)
          refine lv_aload_n hx hb dX5_put_63 rfl (lv_at hl 1 rfl) ?_
          refine lv_iload_n hx hb dX5_put_64 rfl (lv_at hl 2 rfl) ?_
          refine lv_iconst (v := (-1)) hx hb dX5_put_65 (by decide) ?_
          refine k2_V hx hb hml hown hG cs_X5_62 (c5_closes l D cI cZ d (upB S b (stq (lgO b) S.2.1 (S.1 b) key v)) th b (-1) (by omega) hCC hap) (by decide) (pzV hK rfl hB0.rc hB0) rfl hl.1 rfl (Nat.le_of_ble_eq_true rfl) dX5_put_66 ⟨Nat.zero_le _, Nat.zero_le _⟩ rfl hS (fun q h => h) (fun H locs hB0 hz hk hS => ?_)
          refine lv_aload_n hx hb dX5_put_69 rfl (lv_at hl 1 rfl) ?_
          refine lv_iload hx hb dX5_put_70 (lv_at hl 0 rfl) ?_
          refine k2_V hx hb hml hown hG cs_X5_82 (c5_says l D cI cZ d (clB (upB S b (stq (lgO b) S.2.1 (S.1 b) key v)) b (-1)) th true hap) (by decide) (pzV hK rfl hB0.rc hB0) rfl hl.1 rfl (Nat.le_of_ble_eq_true rfl) dX5_put_72 ⟨Nat.zero_le _, Nat.zero_le _⟩ rfl hS (fun q h => h) (fun H locs hB0 hz hk hS => ?_)
          exact w_z (PB := (fun H => MdAt D cI cZ d (clB (upB S b (stq (lgO b) S.2.1 (S.1 b) key v)) b (-1)) (nI 0) H)) rfl hB0 hS hx hb hr hlocks dX5_put_75
  · skip
    have e9 : sp_put S x key v = (1, false, S) := by simp [sp_put, hbk]
    rw [e9]
    refine m_start (by decide) (Nat.le_of_ble_eq_true rfl) ?_
    intro p e s m below meth c hx hb hr hG hown hlocks hml hB ls hl
    have hl : lv_has ls 5 [(0, .ref (d 0)), (1, .int (x)), (2, .int (key)), (3, .int (v))] := hl
    obtain ⟨hB0, hK⟩ := hB
    have hS : va_S (Ao d 9) s.heap s.heap [] := va_S.rf
    refine lv_iload_n hx hb dX5_put_0 rfl (lv_at hl 1 rfl) ?_
    refine k1_S hx hb hml hown hG cs_X5_68 (by have h := c5_isBook l D x; rw [hno] at h; exact h) (by decide) (pzS (hK.sub (tys' := []) [] rfl) trivial) rfl hl.1 rfl (Nat.le_of_ble_eq_true rfl) dX5_put_1 ⟨Nat.zero_le _, Nat.zero_le _⟩ rfl ?_
    refine x_ifb_ne (tgt := 13) hx hb dX5_put_4 (by decide) (fun zc1 => False.elim (by first | exact absurd zc1 (by decide) | omega | (simp_all; done))) (fun zc1 => ?_)
    refine lv_aload_n hx hb dX5_put_7 rfl (lv_at hl 0 rfl) ?_
    refine lv_iconst (v := nI 1) hx hb dX5_put_8 (by decide) ?_
    refine k2_V hx hb hml hown hG cs_X5_72 (c5_denies l D cI cZ d S th 1 hap) (by decide) (pzV hK rfl hB0.rc hB0) rfl hl.1 rfl (Nat.le_of_ble_eq_true rfl) dX5_put_9 ⟨Nat.zero_le _, Nat.zero_le _⟩ rfl hS (fun q h => h) (fun H locs hB0 hz hk hS => ?_)
    exact w_z (PB := (fun H => MdAt D cI cZ d S (nI 1) H)) rfl hB0 hS hx hb hr hlocks dX5_put_12
set_option maxHeartbeats 4000000 in
set_option maxRecDepth 100000 in
theorem m_putNew (l : Launch) (D : va_G) (cI cZ : ClassId) (d : Nat → Nat) (S : St) (th : Int32) (x key v : Int32) (hI : Inv S) (hap : Ap d 9) : Met l yX5_putNew (ws_ yX5_putNew cX5_putNew 5 (some .int)) (rmN 4) (va_Pc [.ref (d 0), .int x, .int key, .int v] (pz D [(cI, .int), (cZ, .boolean)] (fun H => MdAt D cI cZ d S th H))) (Wq (some (.int (sp_putNew S x key v).2.1)) (fun H => MdAt D cI cZ d (sp_putNew S x key v).2.2 (nI (sp_putNew S x key v).1) H) (Ao d 9)) 0 0 (Ao d 9) := by
  have hbd2 : S.2.1 ≤ 40 := hI.2.2.2.1
  have hCC : ∀ cu, cu < 3 → ∀ y, S.2.2.1 cu = some y → y.1 < 4 := fun cu hcu y hy => by have h := hI.2.2.2.2.1 cu hcu; rw [hy] at h; exact h.1
  rcases bkn_cases 4 (by decide) x with ⟨b, hb4, rfl, hbk⟩ | ⟨hbk, hno⟩
  · have hN := hI.1 b hb4
    by_cases h2 : 2 ≤ b
    · skip
      have e9 : sp_putNew S (nI (b)) key v = (2, 0, S) := by simp [sp_putNew, hbk, h2]
      rw [e9]
      refine m_start (by decide) (Nat.le_of_ble_eq_true rfl) ?_
      intro p e s m below meth c hx hb hr hG hown hlocks hml hB ls hl
      have hl : lv_has ls 5 [(0, .ref (d 0)), (1, .int (nI (b))), (2, .int (key)), (3, .int (v))] := hl
      obtain ⟨hB0, hK⟩ := hB
      have hS : va_S (Ao d 9) s.heap s.heap [] := va_S.rf
      refine lv_aload_n hx hb dX5_putNew_0 rfl (lv_at hl 0 rfl) ?_
      refine lv_iload_n hx hb dX5_putNew_1 rfl (lv_at hl 1 rfl) ?_
      refine lv_iload_n hx hb dX5_putNew_2 rfl (lv_at hl 2 rfl) ?_
      refine k1_V hx hb hml hown hG cs_X5_89 (c5_lacks_np l D cI cZ d S th (nI b) key b rfl (by omega) h2) (by decide) (pzV hK rfl hB0.rc hB0) rfl hl.1 rfl (Nat.le_of_ble_eq_true rfl) dX5_putNew_3 ⟨Nat.zero_le _, Nat.zero_le _⟩ rfl ?_
      refine lv_istore (lv' := [(4, .int (nI (2))), (0, .ref (d 0)), (1, .int (nI (b))), (2, .int (key)), (3, .int (v))]) hx hb dX5_putNew_6 hl (by decide) rfl (fun ls hl => ?_)
      refine lv_iload hx hb dX5_putNew_8 (lv_at hl 0 rfl) ?_
      refine x_if_eq (tgt := 20) hx hb dX5_putNew_10 (by decide) (by omega) (fun zc1 => False.elim (by first | exact absurd zc1 (by decide) | omega | (simp_all; done))) (fun zc1 => ?_)
      refine lv_aload_n hx hb dX5_putNew_13 rfl (lv_at hl 1 rfl) ?_
      refine lv_iload hx hb dX5_putNew_14 (lv_at hl 0 rfl) ?_
      refine k2_V hx hb hml hown hG cs_X5_58 (c5_refuse l D cI cZ d S th 2 hap) (by decide) (pzV hK rfl hB0.rc hB0) rfl hl.1 rfl (Nat.le_of_ble_eq_true rfl) dX5_putNew_16 ⟨Nat.zero_le _, Nat.zero_le _⟩ rfl hS (fun q h => h) (fun H locs hB0 hz hk hS => ?_)
      exact w_i (PB := (fun H => MdAt D cI cZ d S (nI 2) H)) rfl hB0 hS hx hb hr hlocks dX5_putNew_19
    · cases hfu : full S b key with
      | true =>
        have e9 : sp_putNew S (nI (b)) key v = (3, 0, S) := by simp [sp_putNew, hbk, h2, hfu]
        rw [e9]
        refine m_start (by decide) (Nat.le_of_ble_eq_true rfl) ?_
        intro p e s m below meth c hx hb hr hG hown hlocks hml hB ls hl
        have hl : lv_has ls 5 [(0, .ref (d 0)), (1, .int (nI (b))), (2, .int (key)), (3, .int (v))] := hl
        obtain ⟨hB0, hK⟩ := hB
        have hS : va_S (Ao d 9) s.heap s.heap [] := va_S.rf
        refine lv_aload_n hx hb dX5_putNew_0 rfl (lv_at hl 0 rfl) ?_
        refine lv_iload_n hx hb dX5_putNew_1 rfl (lv_at hl 1 rfl) ?_
        refine lv_iload_n hx hb dX5_putNew_2 rfl (lv_at hl 2 rfl) ?_
        refine k1_V hx hb hml hown hG cs_X5_89 (c5_lacks_fu l D cI cZ d S th (nI b) key b rfl (by omega) hfu) (by decide) (pzV hK rfl hB0.rc hB0) rfl hl.1 rfl (Nat.le_of_ble_eq_true rfl) dX5_putNew_3 ⟨Nat.zero_le _, Nat.zero_le _⟩ rfl ?_
        refine lv_istore (lv' := [(4, .int (nI (3))), (0, .ref (d 0)), (1, .int (nI (b))), (2, .int (key)), (3, .int (v))]) hx hb dX5_putNew_6 hl (by decide) rfl (fun ls hl => ?_)
        refine lv_iload hx hb dX5_putNew_8 (lv_at hl 0 rfl) ?_
        refine x_if_eq (tgt := 20) hx hb dX5_putNew_10 (by decide) (by omega) (fun zc1 => False.elim (by first | exact absurd zc1 (by decide) | omega | (simp_all; done))) (fun zc1 => ?_)
        refine lv_aload_n hx hb dX5_putNew_13 rfl (lv_at hl 1 rfl) ?_
        refine lv_iload hx hb dX5_putNew_14 (lv_at hl 0 rfl) ?_
        refine k2_V hx hb hml hown hG cs_X5_58 (c5_refuse l D cI cZ d S th 3 hap) (by decide) (pzV hK rfl hB0.rc hB0) rfl hl.1 rfl (Nat.le_of_ble_eq_true rfl) dX5_putNew_16 ⟨Nat.zero_le _, Nat.zero_le _⟩ rfl hS (fun q h => h) (fun H locs hB0 hz hk hS => ?_)
        exact w_i (PB := (fun H => MdAt D cI cZ d S (nI 3) H)) rfl hB0 hS hx hb hr hlocks dX5_putNew_19
      | false =>
        have hlg : lgO b = false := decide_eq_false (by omega)
        cases hf : fx (S.1 b) key with
        | none =>
          have e9 : sp_putNew S (nI (b)) key v = (0, v, clB (upB S b (S.1 b ++ [(key, v)])) b (-1)) := by simp [sp_putNew, hbk, h2, hfu, hf]
          rw [e9]
          refine m_start (by decide) (Nat.le_of_ble_eq_true rfl) ?_
          intro p e s m below meth c hx hb hr hG hown hlocks hml hB ls hl
          have hl : lv_has ls 5 [(0, .ref (d 0)), (1, .int (nI (b))), (2, .int (key)), (3, .int (v))] := hl
          obtain ⟨hB0, hK⟩ := hB
          have hS : va_S (Ao d 9) s.heap s.heap [] := va_S.rf
          refine lv_aload_n hx hb dX5_putNew_0 rfl (lv_at hl 0 rfl) ?_
          refine lv_iload_n hx hb dX5_putNew_1 rfl (lv_at hl 1 rfl) ?_
          refine lv_iload_n hx hb dX5_putNew_2 rfl (lv_at hl 2 rfl) ?_
          refine k1_V hx hb hml hown hG cs_X5_89 (c5_lacks_ok l D cI cZ d S th (nI b) key b rfl (by omega) hfu) (by decide) (pzV hK rfl hB0.rc hB0) rfl hl.1 rfl (Nat.le_of_ble_eq_true rfl) dX5_putNew_3 ⟨Nat.zero_le _, Nat.zero_le _⟩ rfl ?_
          refine lv_istore (lv' := [(4, .int (nI (0))), (0, .ref (d 0)), (1, .int (nI (b))), (2, .int (key)), (3, .int (v))]) hx hb dX5_putNew_6 hl (by decide) rfl (fun ls hl => ?_)
          refine lv_iload hx hb dX5_putNew_8 (lv_at hl 0 rfl) ?_
          refine x_if_eq (tgt := 20) hx hb dX5_putNew_10 (by decide) (by omega) (fun zc1 => ?_) (fun zc1 => False.elim (by first | exact absurd zc1 (by decide) | omega | (simp_all; done)))
          refine lv_aload_n hx hb dX5_putNew_20 rfl (lv_at hl 1 rfl) ?_
          refine lv_iload_n hx hb dX5_putNew_21 rfl (lv_at hl 2 rfl) ?_
          refine lv_iload_n hx hb dX5_putNew_22 rfl (lv_at hl 3 rfl) ?_
          refine k1_V hx hb hml hown hG cs_X5_50 (by have h := c5_place l D cI cZ d S th b key (by omega); rw [hf] at h; exact h) (by decide) (pzV hK rfl hB0.rc hB0) rfl hl.1 rfl (Nat.le_of_ble_eq_true rfl) dX5_putNew_23 ⟨Nat.zero_le _, Nat.zero_le _⟩ rfl ?_
          refine lv_iconst (v := (-1)) hx hb dX5_putNew_26 (by decide) ?_
          refine lv_icmp_ne (tgt := 37) hx hb dX5_putNew_27 (by decide) (fun zc2 => False.elim (by first | exact absurd zc2 (by decide) | omega | (simp_all; done))) (fun zc2 => ?_)
          refine lv_aload_n hx hb dX5_putNew_30 rfl (lv_at hl 1 rfl) ?_
          refine lv_iload_n hx hb dX5_putNew_31 rfl (lv_at hl 2 rfl) ?_
          refine lv_iload_n hx hb dX5_putNew_32 rfl (lv_at hl 3 rfl) ?_
          refine lv_iload_n hx hb dX5_putNew_33 rfl (lv_at hl 4 rfl) ?_
          refine k2_V hx hb hml hown hG cs_X5_54 (c5_comes_pl l D cI cZ d S th b key v (by omega) (hN.2) hap (by omega)) (by decide) (pzV hK rfl hB0.rc hB0) rfl hl.1 rfl (Nat.le_of_ble_eq_true rfl) dX5_putNew_34 ⟨Nat.zero_le _, Nat.zero_le _⟩ rfl hS (fun q h => h) (fun H locs hB0 hz hk hS => ?_)
          refine lv_aload_n hx hb dX5_putNew_37 rfl (lv_at hl 1 rfl) ?_
          refine lv_iload_n hx hb dX5_putNew_38 rfl (lv_at hl 2 rfl) ?_
          refine lv_iconst (v := (-1)) hx hb dX5_putNew_39 (by decide) ?_
          refine k2_V hx hb hml hown hG cs_X5_62 (c5_closes l D cI cZ d (upB S b (S.1 b ++ [(key, v)])) th b (-1) (by omega) hCC hap) (by decide) (pzV hK rfl hB0.rc hB0) rfl hl.1 rfl (Nat.le_of_ble_eq_true rfl) dX5_putNew_40 ⟨Nat.zero_le _, Nat.zero_le _⟩ rfl hS (fun q h => h) (fun H locs hB0 hz hk hS => ?_)
          obtain ⟨K, V, sz, cb, ck, ca, it, ou, hP, hMB, hMC, hMO⟩ := id hB0
          have hvv : V ((201 * b) + ((S.1 b).length)) = v := by
            have h := ((hMB b (by omega)).2.2 ((S.1 b).length) (by rw [show (clB (upB S b (S.1 b ++ [(key, v)])) b (-1)).1 b = (S.1 b ++ [(key, v)]) from clB_1 S b (S.1 b ++ [(key, v)]) (-1)]; simp)).2
            rw [show (clB (upB S b (S.1 b ++ [(key, v)])) b (-1)).1 b = (S.1 b ++ [(key, v)]) from clB_1 S b (S.1 b ++ [(key, v)]) (-1)] at h
            rw [h]
            exact vf_end _ _
          have hP : va_P D vwCl [(d 0, .inr (5, [.ref (d 1), .ref (d 2), .ref (d 3), .int (nI (S.2.1)), .int (th), .ref (d 4), .ref (d 5), .ref (d 6), .ref (d 7), .ref (d 8), .int (nI (S.2.2.2.length))])), (d 1, .inl (cI, (804, .inl K))), (d 2, .inl (cI, (804, .inl V))), (d 3, .inl (cI, (4, .inl sz))), (d 4, .inl (cI, (3, .inl cb))), (d 5, .inl (cI, (3, .inl ck))), (d 6, .inl (cI, (3, .inl ca))), (d 7, .inl (cZ, (3, .inl it))), (d 8, .inl (cI, (6000, .inl ou)))] H := hP
          refine lv_aload_n hx hb dX5_putNew_43 rfl (lv_at hl 1 rfl) ?_
          refine lv_aload_n hx hb dX5_putNew_44 rfl (lv_at hl 1 rfl) ?_
          refine gf_X5_13 hx hb hG hown hK hP 0 rfl rfl dX5_putNew_45 ?_
          refine lv_sipush (v := nI 201) hx hb dX5_putNew_48 (by decide) ?_
          refine lv_iload_n hx hb dX5_putNew_51 rfl (lv_at hl 2 rfl) ?_
          refine x_imul (v := nI (201 * b)) hx hb dX5_putNew_52 (pk_mul _ _) ?_
          refine lv_aload_n hx hb dX5_putNew_53 rfl (lv_at hl 1 rfl) ?_
          refine lv_iload_n hx hb dX5_putNew_54 rfl (lv_at hl 2 rfl) ?_
          refine lv_iload_n hx hb dX5_putNew_55 rfl (lv_at hl 3 rfl) ?_
          refine k1_V hx hb hml hown hG cs_X5_50 (by have h := c5_place l D cI cZ d (clB (upB S b (S.1 b ++ [(key, v)])) b (-1)) th b key (by omega); rw [show (clB (upB S b (S.1 b ++ [(key, v)])) b (-1)).1 b = (S.1 b ++ [(key, v)]) from clB_1 S b (S.1 b ++ [(key, v)]) (-1), fx_is (i := (S.1 b).length) (by simp) (kf_end _ _) (fun j hj => by rw [kf_app hj]; exact fx_none hf j hj)] at h; exact h) (by decide) (pzV hK rfl hB0.rc hB0) rfl hl.1 rfl (Nat.le_of_ble_eq_true rfl) dX5_putNew_56 ⟨Nat.zero_le _, Nat.zero_le _⟩ rfl ?_
          refine x_iadd (v := nI ((201 * b) + ((S.1 b).length))) hx hb dX5_putNew_59 (nI_add _ _) ?_
          refine x_iald hx hb hK hP 2 0 rfl rfl (by omega) (by decide) dX5_putNew_60 ?_
          rw [hvv]
          refine k2_V hx hb hml hown hG cs_X5_65 (c5_told l D cI cZ d (clB (upB S b (S.1 b ++ [(key, v)])) b (-1)) th v hap) (by decide) (pzV hK rfl hB0.rc hB0) rfl hl.1 rfl (Nat.le_of_ble_eq_true rfl) dX5_putNew_61 ⟨Nat.zero_le _, Nat.zero_le _⟩ rfl hS (fun q h => h) (fun H locs hB0 hz hk hS => ?_)
          exact w_i (PB := (fun H => MdAt D cI cZ d (clB (upB S b (S.1 b ++ [(key, v)])) b (-1)) (nI 0) H)) rfl hB0 hS hx hb hr hlocks dX5_putNew_64
        | some i =>
          have hi := (fx_some hf).1
          have e9 : sp_putNew S (nI (b)) key v = (0, vf (S.1 b) i, clB S b (-1)) := by simp [sp_putNew, hbk, h2, hfu, hf]
          rw [e9]
          refine m_start (by decide) (Nat.le_of_ble_eq_true rfl) ?_
          intro p e s m below meth c hx hb hr hG hown hlocks hml hB ls hl
          have hl : lv_has ls 5 [(0, .ref (d 0)), (1, .int (nI (b))), (2, .int (key)), (3, .int (v))] := hl
          obtain ⟨hB0, hK⟩ := hB
          have hS : va_S (Ao d 9) s.heap s.heap [] := va_S.rf
          refine lv_aload_n hx hb dX5_putNew_0 rfl (lv_at hl 0 rfl) ?_
          refine lv_iload_n hx hb dX5_putNew_1 rfl (lv_at hl 1 rfl) ?_
          refine lv_iload_n hx hb dX5_putNew_2 rfl (lv_at hl 2 rfl) ?_
          refine k1_V hx hb hml hown hG cs_X5_89 (c5_lacks_ok l D cI cZ d S th (nI b) key b rfl (by omega) hfu) (by decide) (pzV hK rfl hB0.rc hB0) rfl hl.1 rfl (Nat.le_of_ble_eq_true rfl) dX5_putNew_3 ⟨Nat.zero_le _, Nat.zero_le _⟩ rfl ?_
          refine lv_istore (lv' := [(4, .int (nI (0))), (0, .ref (d 0)), (1, .int (nI (b))), (2, .int (key)), (3, .int (v))]) hx hb dX5_putNew_6 hl (by decide) rfl (fun ls hl => ?_)
          refine lv_iload hx hb dX5_putNew_8 (lv_at hl 0 rfl) ?_
          refine x_if_eq (tgt := 20) hx hb dX5_putNew_10 (by decide) (by omega) (fun zc1 => ?_) (fun zc1 => False.elim (by first | exact absurd zc1 (by decide) | omega | (simp_all; done)))
          refine lv_aload_n hx hb dX5_putNew_20 rfl (lv_at hl 1 rfl) ?_
          refine lv_iload_n hx hb dX5_putNew_21 rfl (lv_at hl 2 rfl) ?_
          refine lv_iload_n hx hb dX5_putNew_22 rfl (lv_at hl 3 rfl) ?_
          refine k1_V hx hb hml hown hG cs_X5_50 (by have h := c5_place l D cI cZ d S th b key (by omega); rw [hf] at h; exact h) (by decide) (pzV hK rfl hB0.rc hB0) rfl hl.1 rfl (Nat.le_of_ble_eq_true rfl) dX5_putNew_23 ⟨Nat.zero_le _, Nat.zero_le _⟩ rfl ?_
          refine lv_iconst (v := (-1)) hx hb dX5_putNew_26 (by decide) ?_
          refine lv_icmp_ne (tgt := 37) hx hb dX5_putNew_27 (by decide) (fun zc2 => ?_) (fun zc2 => False.elim (by first | omega | contradiction | exact absurd zc2 (m1_ne _ (by omega)) | exact absurd zc2 (by decide) | exact absurd (Eq.symm zc2) (m1_ne _ (by omega)) | (simp_all; done)))
          refine lv_aload_n hx hb dX5_putNew_37 rfl (lv_at hl 1 rfl) ?_
          refine lv_iload_n hx hb dX5_putNew_38 rfl (lv_at hl 2 rfl) ?_
          refine lv_iconst (v := (-1)) hx hb dX5_putNew_39 (by decide) ?_
          refine k2_V hx hb hml hown hG cs_X5_62 (c5_closes l D cI cZ d S th b (-1) (by omega) hCC hap) (by decide) (pzV hK rfl hB0.rc hB0) rfl hl.1 rfl (Nat.le_of_ble_eq_true rfl) dX5_putNew_40 ⟨Nat.zero_le _, Nat.zero_le _⟩ rfl hS (fun q h => h) (fun H locs hB0 hz hk hS => ?_)
          obtain ⟨K, V, sz, cb, ck, ca, it, ou, hP, hMB, hMC, hMO⟩ := id hB0
          have hvv : V ((201 * b) + i) = vf (S.1 b) i := by
            have h := ((hMB b (by omega)).2.2 i (by rw [show (clB S b (-1)).1 b = S.1 b from rfl]; exact hi)).2
            rw [show (clB S b (-1)).1 b = S.1 b from rfl] at h
            rw [h]
            skip
          have hP : va_P D vwCl [(d 0, .inr (5, [.ref (d 1), .ref (d 2), .ref (d 3), .int (nI (S.2.1)), .int (th), .ref (d 4), .ref (d 5), .ref (d 6), .ref (d 7), .ref (d 8), .int (nI (S.2.2.2.length))])), (d 1, .inl (cI, (804, .inl K))), (d 2, .inl (cI, (804, .inl V))), (d 3, .inl (cI, (4, .inl sz))), (d 4, .inl (cI, (3, .inl cb))), (d 5, .inl (cI, (3, .inl ck))), (d 6, .inl (cI, (3, .inl ca))), (d 7, .inl (cZ, (3, .inl it))), (d 8, .inl (cI, (6000, .inl ou)))] H := hP
          refine lv_aload_n hx hb dX5_putNew_43 rfl (lv_at hl 1 rfl) ?_
          refine lv_aload_n hx hb dX5_putNew_44 rfl (lv_at hl 1 rfl) ?_
          refine gf_X5_13 hx hb hG hown hK hP 0 rfl rfl dX5_putNew_45 ?_
          refine lv_sipush (v := nI 201) hx hb dX5_putNew_48 (by decide) ?_
          refine lv_iload_n hx hb dX5_putNew_51 rfl (lv_at hl 2 rfl) ?_
          refine x_imul (v := nI (201 * b)) hx hb dX5_putNew_52 (pk_mul _ _) ?_
          refine lv_aload_n hx hb dX5_putNew_53 rfl (lv_at hl 1 rfl) ?_
          refine lv_iload_n hx hb dX5_putNew_54 rfl (lv_at hl 2 rfl) ?_
          refine lv_iload_n hx hb dX5_putNew_55 rfl (lv_at hl 3 rfl) ?_
          refine k1_V hx hb hml hown hG cs_X5_50 (by have h := c5_place l D cI cZ d (clB S b (-1)) th b key (by omega); rw [show (clB S b (-1)).1 b = S.1 b from rfl, hf] at h; exact h) (by decide) (pzV hK rfl hB0.rc hB0) rfl hl.1 rfl (Nat.le_of_ble_eq_true rfl) dX5_putNew_56 ⟨Nat.zero_le _, Nat.zero_le _⟩ rfl ?_
          refine x_iadd (v := nI ((201 * b) + i)) hx hb dX5_putNew_59 (nI_add _ _) ?_
          refine x_iald hx hb hK hP 2 0 rfl rfl (by omega) (by decide) dX5_putNew_60 ?_
          rw [hvv]
          refine k2_V hx hb hml hown hG cs_X5_65 (c5_told l D cI cZ d (clB S b (-1)) th (vf (S.1 b) i) hap) (by decide) (pzV hK rfl hB0.rc hB0) rfl hl.1 rfl (Nat.le_of_ble_eq_true rfl) dX5_putNew_61 ⟨Nat.zero_le _, Nat.zero_le _⟩ rfl hS (fun q h => h) (fun H locs hB0 hz hk hS => ?_)
          exact w_i (PB := (fun H => MdAt D cI cZ d (clB S b (-1)) (nI 0) H)) rfl hB0 hS hx hb hr hlocks dX5_putNew_64
  · skip
    have e9 : sp_putNew S x key v = (1, 0, S) := by simp [sp_putNew, hbk]
    rw [e9]
    refine m_start (by decide) (Nat.le_of_ble_eq_true rfl) ?_
    intro p e s m below meth c hx hb hr hG hown hlocks hml hB ls hl
    have hl : lv_has ls 5 [(0, .ref (d 0)), (1, .int (x)), (2, .int (key)), (3, .int (v))] := hl
    obtain ⟨hB0, hK⟩ := hB
    have hS : va_S (Ao d 9) s.heap s.heap [] := va_S.rf
    refine lv_aload_n hx hb dX5_putNew_0 rfl (lv_at hl 0 rfl) ?_
    refine lv_iload_n hx hb dX5_putNew_1 rfl (lv_at hl 1 rfl) ?_
    refine lv_iload_n hx hb dX5_putNew_2 rfl (lv_at hl 2 rfl) ?_
    refine k1_V hx hb hml hown hG cs_X5_89 (c5_lacks_no l D cI cZ d S th x key hno) (by decide) (pzV hK rfl hB0.rc hB0) rfl hl.1 rfl (Nat.le_of_ble_eq_true rfl) dX5_putNew_3 ⟨Nat.zero_le _, Nat.zero_le _⟩ rfl ?_
    refine lv_istore (lv' := [(4, .int (nI (1))), (0, .ref (d 0)), (1, .int (x)), (2, .int (key)), (3, .int (v))]) hx hb dX5_putNew_6 hl (by decide) rfl (fun ls hl => ?_)
    refine lv_iload hx hb dX5_putNew_8 (lv_at hl 0 rfl) ?_
    refine x_if_eq (tgt := 20) hx hb dX5_putNew_10 (by decide) (by omega) (fun zc1 => False.elim (by first | exact absurd zc1 (by decide) | omega | (simp_all; done))) (fun zc1 => ?_)
    refine lv_aload_n hx hb dX5_putNew_13 rfl (lv_at hl 1 rfl) ?_
    refine lv_iload hx hb dX5_putNew_14 (lv_at hl 0 rfl) ?_
    refine k2_V hx hb hml hown hG cs_X5_58 (c5_refuse l D cI cZ d S th 1 hap) (by decide) (pzV hK rfl hB0.rc hB0) rfl hl.1 rfl (Nat.le_of_ble_eq_true rfl) dX5_putNew_16 ⟨Nat.zero_le _, Nat.zero_le _⟩ rfl hS (fun q h => h) (fun H locs hB0 hz hk hS => ?_)
    exact w_i (PB := (fun H => MdAt D cI cZ d S (nI 1) H)) rfl hB0 hS hx hb hr hlocks dX5_putNew_19
set_option maxHeartbeats 4000000 in
set_option maxRecDepth 100000 in
theorem m_add (l : Launch) (D : va_G) (cI cZ : ClassId) (d : Nat → Nat) (S : St) (th : Int32) (x key v : Int32) (hI : Inv S) (hap : Ap d 9) : Met l yX5_add (ws_ yX5_add cX5_add 6 (some .int)) (rmN 4) (va_Pc [.ref (d 0), .int x, .int key, .int v] (pz D [(cI, .int), (cZ, .boolean)] (fun H => MdAt D cI cZ d S th H))) (Wq (some (.int (sp_add S x key v).2.1)) (fun H => MdAt D cI cZ d (sp_add S x key v).2.2 (nI (sp_add S x key v).1) H) (Ao d 9)) 0 0 (Ao d 9) := by
  have hbd2 : S.2.1 ≤ 40 := hI.2.2.2.1
  have hCC : ∀ cu, cu < 3 → ∀ y, S.2.2.1 cu = some y → y.1 < 4 := fun cu hcu y hy => by have h := hI.2.2.2.2.1 cu hcu; rw [hy] at h; exact h.1
  rcases bkn_cases 4 (by decide) x with ⟨b, hb4, rfl, hbk⟩ | ⟨hbk, hno⟩
  · have hN := hI.1 b hb4
    by_cases h2 : 2 ≤ b
    · skip
      have e9 : sp_add S (nI (b)) key v = (2, 0, S) := by simp [sp_add, hbk, h2]
      rw [e9]
      refine m_start (by decide) (Nat.le_of_ble_eq_true rfl) ?_
      intro p e s m below meth c hx hb hr hG hown hlocks hml hB ls hl
      have hl : lv_has ls 6 [(0, .ref (d 0)), (1, .int (nI (b))), (2, .int (key)), (3, .int (v))] := hl
      obtain ⟨hB0, hK⟩ := hB
      have hS : va_S (Ao d 9) s.heap s.heap [] := va_S.rf
      refine lv_aload_n hx hb dX5_add_0 rfl (lv_at hl 0 rfl) ?_
      refine lv_iload_n hx hb dX5_add_1 rfl (lv_at hl 1 rfl) ?_
      refine lv_iload_n hx hb dX5_add_2 rfl (lv_at hl 2 rfl) ?_
      refine k1_V hx hb hml hown hG cs_X5_89 (c5_lacks_np l D cI cZ d S th (nI b) key b rfl (by omega) h2) (by decide) (pzV hK rfl hB0.rc hB0) rfl hl.1 rfl (Nat.le_of_ble_eq_true rfl) dX5_add_3 ⟨Nat.zero_le _, Nat.zero_le _⟩ rfl ?_
      refine lv_istore (lv' := [(4, .int (nI (2))), (0, .ref (d 0)), (1, .int (nI (b))), (2, .int (key)), (3, .int (v))]) hx hb dX5_add_6 hl (by decide) rfl (fun ls hl => ?_)
      refine lv_iload hx hb dX5_add_8 (lv_at hl 0 rfl) ?_
      refine x_if_eq (tgt := 20) hx hb dX5_add_10 (by decide) (by omega) (fun zc1 => False.elim (by first | exact absurd zc1 (by decide) | omega | (simp_all; done))) (fun zc1 => ?_)
      refine lv_aload_n hx hb dX5_add_13 rfl (lv_at hl 1 rfl) ?_
      refine lv_iload hx hb dX5_add_14 (lv_at hl 0 rfl) ?_
      refine k2_V hx hb hml hown hG cs_X5_58 (c5_refuse l D cI cZ d S th 2 hap) (by decide) (pzV hK rfl hB0.rc hB0) rfl hl.1 rfl (Nat.le_of_ble_eq_true rfl) dX5_add_16 ⟨Nat.zero_le _, Nat.zero_le _⟩ rfl hS (fun q h => h) (fun H locs hB0 hz hk hS => ?_)
      exact w_i (PB := (fun H => MdAt D cI cZ d S (nI 2) H)) rfl hB0 hS hx hb hr hlocks dX5_add_19
    · cases hfu : full S b key with
      | true =>
        have e9 : sp_add S (nI (b)) key v = (3, 0, S) := by simp [sp_add, hbk, h2, hfu]
        rw [e9]
        refine m_start (by decide) (Nat.le_of_ble_eq_true rfl) ?_
        intro p e s m below meth c hx hb hr hG hown hlocks hml hB ls hl
        have hl : lv_has ls 6 [(0, .ref (d 0)), (1, .int (nI (b))), (2, .int (key)), (3, .int (v))] := hl
        obtain ⟨hB0, hK⟩ := hB
        have hS : va_S (Ao d 9) s.heap s.heap [] := va_S.rf
        refine lv_aload_n hx hb dX5_add_0 rfl (lv_at hl 0 rfl) ?_
        refine lv_iload_n hx hb dX5_add_1 rfl (lv_at hl 1 rfl) ?_
        refine lv_iload_n hx hb dX5_add_2 rfl (lv_at hl 2 rfl) ?_
        refine k1_V hx hb hml hown hG cs_X5_89 (c5_lacks_fu l D cI cZ d S th (nI b) key b rfl (by omega) hfu) (by decide) (pzV hK rfl hB0.rc hB0) rfl hl.1 rfl (Nat.le_of_ble_eq_true rfl) dX5_add_3 ⟨Nat.zero_le _, Nat.zero_le _⟩ rfl ?_
        refine lv_istore (lv' := [(4, .int (nI (3))), (0, .ref (d 0)), (1, .int (nI (b))), (2, .int (key)), (3, .int (v))]) hx hb dX5_add_6 hl (by decide) rfl (fun ls hl => ?_)
        refine lv_iload hx hb dX5_add_8 (lv_at hl 0 rfl) ?_
        refine x_if_eq (tgt := 20) hx hb dX5_add_10 (by decide) (by omega) (fun zc1 => False.elim (by first | exact absurd zc1 (by decide) | omega | (simp_all; done))) (fun zc1 => ?_)
        refine lv_aload_n hx hb dX5_add_13 rfl (lv_at hl 1 rfl) ?_
        refine lv_iload hx hb dX5_add_14 (lv_at hl 0 rfl) ?_
        refine k2_V hx hb hml hown hG cs_X5_58 (c5_refuse l D cI cZ d S th 3 hap) (by decide) (pzV hK rfl hB0.rc hB0) rfl hl.1 rfl (Nat.le_of_ble_eq_true rfl) dX5_add_16 ⟨Nat.zero_le _, Nat.zero_le _⟩ rfl hS (fun q h => h) (fun H locs hB0 hz hk hS => ?_)
        exact w_i (PB := (fun H => MdAt D cI cZ d S (nI 3) H)) rfl hB0 hS hx hb hr hlocks dX5_add_19
      | false =>
        have hlg : lgO b = false := decide_eq_false (by omega)
        cases hf : fx (S.1 b) key with
        | none =>
          have e9 : sp_add S (nI (b)) key v = (0, v, clB (upB S b (S.1 b ++ [(key, v)])) b (-1)) := by simp [sp_add, hbk, h2, hfu, hf]
          rw [e9]
          refine m_start (by decide) (Nat.le_of_ble_eq_true rfl) ?_
          intro p e s m below meth c hx hb hr hG hown hlocks hml hB ls hl
          have hl : lv_has ls 6 [(0, .ref (d 0)), (1, .int (nI (b))), (2, .int (key)), (3, .int (v))] := hl
          obtain ⟨hB0, hK⟩ := hB
          have hS : va_S (Ao d 9) s.heap s.heap [] := va_S.rf
          have es : stq (lgO b) S.2.1 (S.1 b) key v = (S.1 b ++ [(key, v)]) := by rw [stq_no hf, hlg, ent_plain]
          refine lv_aload_n hx hb dX5_add_0 rfl (lv_at hl 0 rfl) ?_
          refine lv_iload_n hx hb dX5_add_1 rfl (lv_at hl 1 rfl) ?_
          refine lv_iload_n hx hb dX5_add_2 rfl (lv_at hl 2 rfl) ?_
          refine k1_V hx hb hml hown hG cs_X5_89 (c5_lacks_ok l D cI cZ d S th (nI b) key b rfl (by omega) hfu) (by decide) (pzV hK rfl hB0.rc hB0) rfl hl.1 rfl (Nat.le_of_ble_eq_true rfl) dX5_add_3 ⟨Nat.zero_le _, Nat.zero_le _⟩ rfl ?_
          refine lv_istore (lv' := [(4, .int (nI (0))), (0, .ref (d 0)), (1, .int (nI (b))), (2, .int (key)), (3, .int (v))]) hx hb dX5_add_6 hl (by decide) rfl (fun ls hl => ?_)
          refine lv_iload hx hb dX5_add_8 (lv_at hl 0 rfl) ?_
          refine x_if_eq (tgt := 20) hx hb dX5_add_10 (by decide) (by omega) (fun zc1 => ?_) (fun zc1 => False.elim (by first | exact absurd zc1 (by decide) | omega | (simp_all; done)))
          refine lv_aload_n hx hb dX5_add_20 rfl (lv_at hl 1 rfl) ?_
          refine lv_iload_n hx hb dX5_add_21 rfl (lv_at hl 2 rfl) ?_
          refine lv_iload_n hx hb dX5_add_22 rfl (lv_at hl 3 rfl) ?_
          refine k1_V hx hb hml hown hG cs_X5_50 (by have h := c5_place l D cI cZ d S th b key (by omega); rw [hf] at h; exact h) (by decide) (pzV hK rfl hB0.rc hB0) rfl hl.1 rfl (Nat.le_of_ble_eq_true rfl) dX5_add_23 ⟨Nat.zero_le _, Nat.zero_le _⟩ rfl ?_
          refine lv_istore (lv' := [(5, .int ((-1))), (4, .int (nI (0))), (0, .ref (d 0)), (1, .int (nI (b))), (2, .int (key)), (3, .int (v))]) hx hb dX5_add_26 hl (by decide) rfl (fun ls hl => ?_)
          refine lv_aload_n hx hb dX5_add_28 rfl (lv_at hl 2 rfl) ?_
          refine lv_iload_n hx hb dX5_add_29 rfl (lv_at hl 3 rfl) ?_
          refine lv_iload_n hx hb dX5_add_30 rfl (lv_at hl 4 rfl) ?_
          refine lv_iload hx hb dX5_add_31 (lv_at hl 0 rfl) ?_
          refine lv_iconst (v := (-1)) hx hb dX5_add_33 (by decide) ?_
          refine lv_icmp_ne (tgt := 41) hx hb dX5_add_34 (by decide) (fun zc2 => False.elim (by first | exact absurd zc2 (by decide) | omega | (simp_all; done))) (fun zc2 => ?_)
          refine lv_iload_n hx hb dX5_add_37 rfl (lv_at hl 5 rfl) ?_
          refine lv_goto (tgt := 56) hx hb dX5_add_38 (by decide) ?_
          refine k2_V hx hb hml hown hG cs_X5_79 (c5_puts_no l D cI cZ d S th b key v (by omega) hap hf (hN.2) (by omega)) (by decide) (pzV hK rfl hB0.rc hB0) rfl hl.1 rfl (Nat.le_of_ble_eq_true rfl) dX5_add_56 ⟨Nat.zero_le _, Nat.zero_le _⟩ rfl hS (fun q h => h) (fun H locs hB0 hz hk hS => ?_)
          rw [es] at hB0
          refine lv_aload_n hx hb dX5_add_59 rfl (lv_at hl 2 rfl) ?_
          refine lv_iload_n hx hb dX5_add_60 rfl (lv_at hl 3 rfl) ?_
          refine lv_iconst (v := (-1)) hx hb dX5_add_61 (by decide) ?_
          refine k2_V hx hb hml hown hG cs_X5_62 (c5_closes l D cI cZ d (upB S b (S.1 b ++ [(key, v)])) th b (-1) (by omega) hCC hap) (by decide) (pzV hK rfl hB0.rc hB0) rfl hl.1 rfl (Nat.le_of_ble_eq_true rfl) dX5_add_62 ⟨Nat.zero_le _, Nat.zero_le _⟩ rfl hS (fun q h => h) (fun H locs hB0 hz hk hS => ?_)
          obtain ⟨K, V, sz, cb, ck, ca, it, ou, hP, hMB, hMC, hMO⟩ := id hB0
          have hvv : V ((201 * b) + ((S.1 b).length)) = v := by
            have h := ((hMB b (by omega)).2.2 ((S.1 b).length) (by rw [show (clB (upB S b (S.1 b ++ [(key, v)])) b (-1)).1 b = (S.1 b ++ [(key, v)]) from clB_1 S b (S.1 b ++ [(key, v)]) (-1)]; simp)).2
            rw [show (clB (upB S b (S.1 b ++ [(key, v)])) b (-1)).1 b = (S.1 b ++ [(key, v)]) from clB_1 S b (S.1 b ++ [(key, v)]) (-1)] at h
            rw [h]
            exact vf_end _ _
          have hP : va_P D vwCl [(d 0, .inr (5, [.ref (d 1), .ref (d 2), .ref (d 3), .int (nI (S.2.1)), .int (th), .ref (d 4), .ref (d 5), .ref (d 6), .ref (d 7), .ref (d 8), .int (nI (S.2.2.2.length))])), (d 1, .inl (cI, (804, .inl K))), (d 2, .inl (cI, (804, .inl V))), (d 3, .inl (cI, (4, .inl sz))), (d 4, .inl (cI, (3, .inl cb))), (d 5, .inl (cI, (3, .inl ck))), (d 6, .inl (cI, (3, .inl ca))), (d 7, .inl (cZ, (3, .inl it))), (d 8, .inl (cI, (6000, .inl ou)))] H := hP
          refine lv_aload_n hx hb dX5_add_65 rfl (lv_at hl 2 rfl) ?_
          refine lv_aload_n hx hb dX5_add_66 rfl (lv_at hl 2 rfl) ?_
          refine gf_X5_13 hx hb hG hown hK hP 0 rfl rfl dX5_add_67 ?_
          refine lv_sipush (v := nI 201) hx hb dX5_add_70 (by decide) ?_
          refine lv_iload_n hx hb dX5_add_73 rfl (lv_at hl 3 rfl) ?_
          refine x_imul (v := nI (201 * b)) hx hb dX5_add_74 (pk_mul _ _) ?_
          refine lv_aload_n hx hb dX5_add_75 rfl (lv_at hl 2 rfl) ?_
          refine lv_iload_n hx hb dX5_add_76 rfl (lv_at hl 3 rfl) ?_
          refine lv_iload_n hx hb dX5_add_77 rfl (lv_at hl 4 rfl) ?_
          refine k1_V hx hb hml hown hG cs_X5_50 (by have h := c5_place l D cI cZ d (clB (upB S b (S.1 b ++ [(key, v)])) b (-1)) th b key (by omega); rw [show (clB (upB S b (S.1 b ++ [(key, v)])) b (-1)).1 b = (S.1 b ++ [(key, v)]) from clB_1 S b (S.1 b ++ [(key, v)]) (-1), fx_is (i := (S.1 b).length) (by simp) (kf_end _ _) (fun j hj => by rw [kf_app hj]; exact fx_none hf j hj)] at h; exact h) (by decide) (pzV hK rfl hB0.rc hB0) rfl hl.1 rfl (Nat.le_of_ble_eq_true rfl) dX5_add_78 ⟨Nat.zero_le _, Nat.zero_le _⟩ rfl ?_
          refine x_iadd (v := nI ((201 * b) + ((S.1 b).length))) hx hb dX5_add_81 (nI_add _ _) ?_
          refine x_iald hx hb hK hP 2 0 rfl rfl (by omega) (by decide) dX5_add_82 ?_
          rw [hvv]
          refine k2_V hx hb hml hown hG cs_X5_65 (c5_told l D cI cZ d (clB (upB S b (S.1 b ++ [(key, v)])) b (-1)) th v hap) (by decide) (pzV hK rfl hB0.rc hB0) rfl hl.1 rfl (Nat.le_of_ble_eq_true rfl) dX5_add_83 ⟨Nat.zero_le _, Nat.zero_le _⟩ rfl hS (fun q h => h) (fun H locs hB0 hz hk hS => ?_)
          exact w_i (PB := (fun H => MdAt D cI cZ d (clB (upB S b (S.1 b ++ [(key, v)])) b (-1)) (nI 0) H)) rfl hB0 hS hx hb hr hlocks dX5_add_86
        | some i =>
          have hi := (fx_some hf).1
          have e9 : sp_add S (nI (b)) key v = (0, vf (S.1 b) i + v, clB (upB S b (sv (S.1 b) i (vf (S.1 b) i + v))) b (-1)) := by simp [sp_add, hbk, h2, hfu, hf]
          rw [e9]
          refine m_start (by decide) (Nat.le_of_ble_eq_true rfl) ?_
          intro p e s m below meth c hx hb hr hG hown hlocks hml hB ls hl
          have hl : lv_has ls 6 [(0, .ref (d 0)), (1, .int (nI (b))), (2, .int (key)), (3, .int (v))] := hl
          obtain ⟨hB0, hK⟩ := hB
          have hS : va_S (Ao d 9) s.heap s.heap [] := va_S.rf
          have es : stq (lgO b) S.2.1 (S.1 b) key (vf (S.1 b) i + v) = (sv (S.1 b) i (vf (S.1 b) i + v)) := stq_at hf
          refine lv_aload_n hx hb dX5_add_0 rfl (lv_at hl 0 rfl) ?_
          refine lv_iload_n hx hb dX5_add_1 rfl (lv_at hl 1 rfl) ?_
          refine lv_iload_n hx hb dX5_add_2 rfl (lv_at hl 2 rfl) ?_
          refine k1_V hx hb hml hown hG cs_X5_89 (c5_lacks_ok l D cI cZ d S th (nI b) key b rfl (by omega) hfu) (by decide) (pzV hK rfl hB0.rc hB0) rfl hl.1 rfl (Nat.le_of_ble_eq_true rfl) dX5_add_3 ⟨Nat.zero_le _, Nat.zero_le _⟩ rfl ?_
          refine lv_istore (lv' := [(4, .int (nI (0))), (0, .ref (d 0)), (1, .int (nI (b))), (2, .int (key)), (3, .int (v))]) hx hb dX5_add_6 hl (by decide) rfl (fun ls hl => ?_)
          refine lv_iload hx hb dX5_add_8 (lv_at hl 0 rfl) ?_
          refine x_if_eq (tgt := 20) hx hb dX5_add_10 (by decide) (by omega) (fun zc1 => ?_) (fun zc1 => False.elim (by first | exact absurd zc1 (by decide) | omega | (simp_all; done)))
          refine lv_aload_n hx hb dX5_add_20 rfl (lv_at hl 1 rfl) ?_
          refine lv_iload_n hx hb dX5_add_21 rfl (lv_at hl 2 rfl) ?_
          refine lv_iload_n hx hb dX5_add_22 rfl (lv_at hl 3 rfl) ?_
          refine k1_V hx hb hml hown hG cs_X5_50 (by have h := c5_place l D cI cZ d S th b key (by omega); rw [hf] at h; exact h) (by decide) (pzV hK rfl hB0.rc hB0) rfl hl.1 rfl (Nat.le_of_ble_eq_true rfl) dX5_add_23 ⟨Nat.zero_le _, Nat.zero_le _⟩ rfl ?_
          refine lv_istore (lv' := [(5, .int (nI (i))), (4, .int (nI (0))), (0, .ref (d 0)), (1, .int (nI (b))), (2, .int (key)), (3, .int (v))]) hx hb dX5_add_26 hl (by decide) rfl (fun ls hl => ?_)
          refine lv_aload_n hx hb dX5_add_28 rfl (lv_at hl 2 rfl) ?_
          refine lv_iload_n hx hb dX5_add_29 rfl (lv_at hl 3 rfl) ?_
          refine lv_iload_n hx hb dX5_add_30 rfl (lv_at hl 4 rfl) ?_
          refine lv_iload hx hb dX5_add_31 (lv_at hl 0 rfl) ?_
          refine lv_iconst (v := (-1)) hx hb dX5_add_33 (by decide) ?_
          refine lv_icmp_ne (tgt := 41) hx hb dX5_add_34 (by decide) (fun zc2 => ?_) (fun zc2 => False.elim (by first | omega | contradiction | exact absurd zc2 (m1_ne _ (by omega)) | exact absurd zc2 (by decide) | exact absurd (Eq.symm zc2) (m1_ne _ (by omega)) | (simp_all; done)))
          refine lv_aload_n hx hb dX5_add_41 rfl (lv_at hl 2 rfl) ?_
          obtain ⟨K, V, sz, cb, ck, ca, it, ou, hP, hMB, hMC, hMO⟩ := id hB0
          have hP : va_P D vwCl [(d 0, .inr (5, [.ref (d 1), .ref (d 2), .ref (d 3), .int (nI (S.2.1)), .int (th), .ref (d 4), .ref (d 5), .ref (d 6), .ref (d 7), .ref (d 8), .int (nI (S.2.2.2.length))])), (d 1, .inl (cI, (804, .inl K))), (d 2, .inl (cI, (804, .inl V))), (d 3, .inl (cI, (4, .inl sz))), (d 4, .inl (cI, (3, .inl cb))), (d 5, .inl (cI, (3, .inl ck))), (d 6, .inl (cI, (3, .inl ca))), (d 7, .inl (cZ, (3, .inl it))), (d 8, .inl (cI, (6000, .inl ou)))] s.heap := hP
          have hD : va_D (Ao d 9) [(d 0, .inr (5, [.ref (d 1), .ref (d 2), .ref (d 3), .int (nI (S.2.1)), .int (th), .ref (d 4), .ref (d 5), .ref (d 6), .ref (d 7), .ref (d 8), .int (nI (S.2.2.2.length))])), (d 1, .inl (cI, (804, .inl K))), (d 2, .inl (cI, (804, .inl V))), (d 3, .inl (cI, (4, .inl sz))), (d 4, .inl (cI, (3, .inl cb))), (d 5, .inl (cI, (3, .inl ck))), (d 6, .inl (cI, (3, .inl ca))), (d 7, .inl (cZ, (3, .inl it))), (d 8, .inl (cI, (6000, .inl ou)))] := hap.D9
          refine gf_X5_13 hx hb hG hown hK hP 0 rfl rfl dX5_add_42 ?_
          refine lv_sipush (v := nI 201) hx hb dX5_add_45 (by decide) ?_
          refine lv_iload_n hx hb dX5_add_48 rfl (lv_at hl 3 rfl) ?_
          refine x_imul (v := nI (201 * b)) hx hb dX5_add_49 (pk_mul _ _) ?_
          refine lv_iload hx hb dX5_add_50 (lv_at hl 0 rfl) ?_
          refine x_iadd (v := nI ((201 * b) + i)) hx hb dX5_add_52 (nI_add _ _) ?_
          refine x_iald hx hb hK hP 2 0 rfl rfl (by omega) (by decide) dX5_add_53 ?_
          rw [show V ((201 * b) + i) = vf (S.1 b) i from ((hMB b (by omega)).2.2 i (by omega)).2]
          refine lv_iload_n hx hb dX5_add_54 rfl (lv_at hl 5 rfl) ?_
          refine x_iadd (v := (vf (S.1 b) i) + v) hx hb dX5_add_55 rfl ?_
          refine k2_V hx hb hml hown hG cs_X5_79 (c5_puts_at l D cI cZ d S th b key ((vf (S.1 b) i) + v) (by omega) hap i hf) (by decide) (pzV hK rfl hB0.rc hB0) rfl hl.1 rfl (Nat.le_of_ble_eq_true rfl) dX5_add_56 ⟨Nat.zero_le _, Nat.zero_le _⟩ rfl hS (fun q h => h) (fun H locs hB0 hz hk hS => ?_)
          rw [es] at hB0
          refine lv_aload_n hx hb dX5_add_59 rfl (lv_at hl 2 rfl) ?_
          refine lv_iload_n hx hb dX5_add_60 rfl (lv_at hl 3 rfl) ?_
          refine lv_iconst (v := (-1)) hx hb dX5_add_61 (by decide) ?_
          refine k2_V hx hb hml hown hG cs_X5_62 (c5_closes l D cI cZ d (upB S b (sv (S.1 b) i (vf (S.1 b) i + v))) th b (-1) (by omega) hCC hap) (by decide) (pzV hK rfl hB0.rc hB0) rfl hl.1 rfl (Nat.le_of_ble_eq_true rfl) dX5_add_62 ⟨Nat.zero_le _, Nat.zero_le _⟩ rfl hS (fun q h => h) (fun H locs hB0 hz hk hS => ?_)
          obtain ⟨K, V, sz, cb, ck, ca, it, ou, hP, hMB, hMC, hMO⟩ := id hB0
          have hvv : V ((201 * b) + i) = vf (S.1 b) i + v := by
            have h := ((hMB b (by omega)).2.2 i (by rw [show (clB (upB S b (sv (S.1 b) i (vf (S.1 b) i + v))) b (-1)).1 b = (sv (S.1 b) i (vf (S.1 b) i + v)) from clB_1 S b (sv (S.1 b) i (vf (S.1 b) i + v)) (-1)]; rw [sv_len]; exact hi)).2
            rw [show (clB (upB S b (sv (S.1 b) i (vf (S.1 b) i + v))) b (-1)).1 b = (sv (S.1 b) i (vf (S.1 b) i + v)) from clB_1 S b (sv (S.1 b) i (vf (S.1 b) i + v)) (-1)] at h
            rw [h]
            rw [vf_sv _ hi, if_pos rfl]
          have hP : va_P D vwCl [(d 0, .inr (5, [.ref (d 1), .ref (d 2), .ref (d 3), .int (nI (S.2.1)), .int (th), .ref (d 4), .ref (d 5), .ref (d 6), .ref (d 7), .ref (d 8), .int (nI (S.2.2.2.length))])), (d 1, .inl (cI, (804, .inl K))), (d 2, .inl (cI, (804, .inl V))), (d 3, .inl (cI, (4, .inl sz))), (d 4, .inl (cI, (3, .inl cb))), (d 5, .inl (cI, (3, .inl ck))), (d 6, .inl (cI, (3, .inl ca))), (d 7, .inl (cZ, (3, .inl it))), (d 8, .inl (cI, (6000, .inl ou)))] H := hP
          refine lv_aload_n hx hb dX5_add_65 rfl (lv_at hl 2 rfl) ?_
          refine lv_aload_n hx hb dX5_add_66 rfl (lv_at hl 2 rfl) ?_
          refine gf_X5_13 hx hb hG hown hK hP 0 rfl rfl dX5_add_67 ?_
          refine lv_sipush (v := nI 201) hx hb dX5_add_70 (by decide) ?_
          refine lv_iload_n hx hb dX5_add_73 rfl (lv_at hl 3 rfl) ?_
          refine x_imul (v := nI (201 * b)) hx hb dX5_add_74 (pk_mul _ _) ?_
          refine lv_aload_n hx hb dX5_add_75 rfl (lv_at hl 2 rfl) ?_
          refine lv_iload_n hx hb dX5_add_76 rfl (lv_at hl 3 rfl) ?_
          refine lv_iload_n hx hb dX5_add_77 rfl (lv_at hl 4 rfl) ?_
          refine k1_V hx hb hml hown hG cs_X5_50 (by have h := c5_place l D cI cZ d (clB (upB S b (sv (S.1 b) i (vf (S.1 b) i + v))) b (-1)) th b key (by omega); rw [show (clB (upB S b (sv (S.1 b) i (vf (S.1 b) i + v))) b (-1)).1 b = (sv (S.1 b) i (vf (S.1 b) i + v)) from clB_1 S b (sv (S.1 b) i (vf (S.1 b) i + v)) (-1), fx_sv, hf] at h; exact h) (by decide) (pzV hK rfl hB0.rc hB0) rfl hl.1 rfl (Nat.le_of_ble_eq_true rfl) dX5_add_78 ⟨Nat.zero_le _, Nat.zero_le _⟩ rfl ?_
          refine x_iadd (v := nI ((201 * b) + i)) hx hb dX5_add_81 (nI_add _ _) ?_
          refine x_iald hx hb hK hP 2 0 rfl rfl (by omega) (by decide) dX5_add_82 ?_
          rw [hvv]
          refine k2_V hx hb hml hown hG cs_X5_65 (c5_told l D cI cZ d (clB (upB S b (sv (S.1 b) i (vf (S.1 b) i + v))) b (-1)) th (vf (S.1 b) i + v) hap) (by decide) (pzV hK rfl hB0.rc hB0) rfl hl.1 rfl (Nat.le_of_ble_eq_true rfl) dX5_add_83 ⟨Nat.zero_le _, Nat.zero_le _⟩ rfl hS (fun q h => h) (fun H locs hB0 hz hk hS => ?_)
          exact w_i (PB := (fun H => MdAt D cI cZ d (clB (upB S b (sv (S.1 b) i (vf (S.1 b) i + v))) b (-1)) (nI 0) H)) rfl hB0 hS hx hb hr hlocks dX5_add_86
  · skip
    have e9 : sp_add S x key v = (1, 0, S) := by simp [sp_add, hbk]
    rw [e9]
    refine m_start (by decide) (Nat.le_of_ble_eq_true rfl) ?_
    intro p e s m below meth c hx hb hr hG hown hlocks hml hB ls hl
    have hl : lv_has ls 6 [(0, .ref (d 0)), (1, .int (x)), (2, .int (key)), (3, .int (v))] := hl
    obtain ⟨hB0, hK⟩ := hB
    have hS : va_S (Ao d 9) s.heap s.heap [] := va_S.rf
    refine lv_aload_n hx hb dX5_add_0 rfl (lv_at hl 0 rfl) ?_
    refine lv_iload_n hx hb dX5_add_1 rfl (lv_at hl 1 rfl) ?_
    refine lv_iload_n hx hb dX5_add_2 rfl (lv_at hl 2 rfl) ?_
    refine k1_V hx hb hml hown hG cs_X5_89 (c5_lacks_no l D cI cZ d S th x key hno) (by decide) (pzV hK rfl hB0.rc hB0) rfl hl.1 rfl (Nat.le_of_ble_eq_true rfl) dX5_add_3 ⟨Nat.zero_le _, Nat.zero_le _⟩ rfl ?_
    refine lv_istore (lv' := [(4, .int (nI (1))), (0, .ref (d 0)), (1, .int (x)), (2, .int (key)), (3, .int (v))]) hx hb dX5_add_6 hl (by decide) rfl (fun ls hl => ?_)
    refine lv_iload hx hb dX5_add_8 (lv_at hl 0 rfl) ?_
    refine x_if_eq (tgt := 20) hx hb dX5_add_10 (by decide) (by omega) (fun zc1 => False.elim (by first | exact absurd zc1 (by decide) | omega | (simp_all; done))) (fun zc1 => ?_)
    refine lv_aload_n hx hb dX5_add_13 rfl (lv_at hl 1 rfl) ?_
    refine lv_iload hx hb dX5_add_14 (lv_at hl 0 rfl) ?_
    refine k2_V hx hb hml hown hG cs_X5_58 (c5_refuse l D cI cZ d S th 1 hap) (by decide) (pzV hK rfl hB0.rc hB0) rfl hl.1 rfl (Nat.le_of_ble_eq_true rfl) dX5_add_16 ⟨Nat.zero_le _, Nat.zero_le _⟩ rfl hS (fun q h => h) (fun H locs hB0 hz hk hS => ?_)
    exact w_i (PB := (fun H => MdAt D cI cZ d S (nI 1) H)) rfl hB0 hS hx hb hr hlocks dX5_add_19
theorem sv_era (L : Bk) (i : Nat) (y : Int32) : (sv L i y).eraseIdx i = L.eraseIdx i := by
  unfold sv
  rw [List.eraseIdx_set_eq]
set_option maxHeartbeats 4000000 in
set_option maxRecDepth 100000 in
theorem m_halve (l : Launch) (D : va_G) (cI cZ : ClassId) (d : Nat → Nat) (S : St) (th : Int32) (x key : Int32) (hI : Inv S) (hap : Ap d 9) : Met l yX5_halve (ws_ yX5_halve cX5_halve 5 (some .boolean)) (rmN 4) (va_Pc [.ref (d 0), .int x, .int key] (pz D [(cI, .int), (cZ, .boolean)] (fun H => MdAt D cI cZ d S th H))) (Wq (some (.int (bI (sp_halve S x key).2.1))) (fun H => MdAt D cI cZ d (sp_halve S x key).2.2 (nI (sp_halve S x key).1) H) (Ao d 9)) 0 0 (Ao d 9) := by
  have hbd2 : S.2.1 ≤ 40 := hI.2.2.2.1
  have hCC : ∀ cu, cu < 3 → ∀ y, S.2.2.1 cu = some y → y.1 < 4 := fun cu hcu y hy => by have h := hI.2.2.2.2.1 cu hcu; rw [hy] at h; exact h.1
  rcases bkn_cases 4 (by decide) x with ⟨b, hb4, rfl, hbk⟩ | ⟨hbk, hno⟩
  · have hN := hI.1 b hb4
    by_cases h2 : 2 ≤ b
    · skip
      have e9 : sp_halve S (nI (b)) key = (2, false, S) := by simp [sp_halve, hbk, h2]
      rw [e9]
      refine m_start (by decide) (Nat.le_of_ble_eq_true rfl) ?_
      intro p e s m below meth c hx hb hr hG hown hlocks hml hB ls hl
      have hl : lv_has ls 5 [(0, .ref (d 0)), (1, .int (nI (b))), (2, .int (key))] := hl
      obtain ⟨hB0, hK⟩ := hB
      have hS : va_S (Ao d 9) s.heap s.heap [] := va_S.rf
      refine lv_iload_n hx hb dX5_halve_0 rfl (lv_at hl 1 rfl) ?_
      refine k1_S hx hb hml hown hG cs_X5_68 (by have h := c5_isBook l D (nI (b)); rw [rch_in (by omega) (by decide)] at h; exact h) (by decide) (pzS (hK.sub (tys' := []) [] rfl) trivial) rfl hl.1 rfl (Nat.le_of_ble_eq_true rfl) dX5_halve_1 ⟨Nat.zero_le _, Nat.zero_le _⟩ rfl ?_
      refine x_ifb_ne (tgt := 13) hx hb dX5_halve_4 (by decide) (fun zc1 => ?_) (fun zc1 => False.elim (by first | exact absurd zc1 (by decide) | omega | (simp_all; done)))
      refine lv_iload_n hx hb dX5_halve_13 rfl (lv_at hl 1 rfl) ?_
      refine k1_S hx hb hml hown hG cs_X5_86 (by have h := c5_isPlain l D (nI (b)); rw [show rch 2 (nI b) = false from rch_hi (nI_le (by omega) (by omega))] at h; exact h) (by decide) (pzS (hK.sub (tys' := []) [] rfl) trivial) rfl hl.1 rfl (Nat.le_of_ble_eq_true rfl) dX5_halve_14 ⟨Nat.zero_le _, Nat.zero_le _⟩ rfl ?_
      refine x_ifb_ne (tgt := 26) hx hb dX5_halve_17 (by decide) (fun zc2 => False.elim (by first | exact absurd zc2 (by decide) | omega | (simp_all; done))) (fun zc2 => ?_)
      refine lv_aload_n hx hb dX5_halve_20 rfl (lv_at hl 0 rfl) ?_
      refine lv_iconst (v := nI 2) hx hb dX5_halve_21 (by decide) ?_
      refine k2_V hx hb hml hown hG cs_X5_72 (c5_denies l D cI cZ d S th 2 hap) (by decide) (pzV hK rfl hB0.rc hB0) rfl hl.1 rfl (Nat.le_of_ble_eq_true rfl) dX5_halve_22 ⟨Nat.zero_le _, Nat.zero_le _⟩ rfl hS (fun q h => h) (fun H locs hB0 hz hk hS => ?_)
      exact w_z (PB := (fun H => MdAt D cI cZ d S (nI 2) H)) rfl hB0 hS hx hb hr hlocks dX5_halve_25
    · skip
      cases hf : fx (S.1 b) key with
      | none =>
        have e9 : sp_halve S (nI (b)) key = (0, false, clB S b (-1)) := by simp [sp_halve, hbk, h2, hf]
        rw [e9]
        refine m_start (by decide) (Nat.le_of_ble_eq_true rfl) ?_
        intro p e s m below meth c hx hb hr hG hown hlocks hml hB ls hl
        have hl : lv_has ls 5 [(0, .ref (d 0)), (1, .int (nI (b))), (2, .int (key))] := hl
        obtain ⟨hB0, hK⟩ := hB
        have hS : va_S (Ao d 9) s.heap s.heap [] := va_S.rf
        refine lv_iload_n hx hb dX5_halve_0 rfl (lv_at hl 1 rfl) ?_
        refine k1_S hx hb hml hown hG cs_X5_68 (by have h := c5_isBook l D (nI (b)); rw [rch_in (by omega) (by decide)] at h; exact h) (by decide) (pzS (hK.sub (tys' := []) [] rfl) trivial) rfl hl.1 rfl (Nat.le_of_ble_eq_true rfl) dX5_halve_1 ⟨Nat.zero_le _, Nat.zero_le _⟩ rfl ?_
        refine x_ifb_ne (tgt := 13) hx hb dX5_halve_4 (by decide) (fun zc1 => ?_) (fun zc1 => False.elim (by first | exact absurd zc1 (by decide) | omega | (simp_all; done)))
        refine lv_iload_n hx hb dX5_halve_13 rfl (lv_at hl 1 rfl) ?_
        refine k1_S hx hb hml hown hG cs_X5_86 (by have h := c5_isPlain l D (nI (b)); rw [rch_in (by omega) (by decide)] at h; exact h) (by decide) (pzS (hK.sub (tys' := []) [] rfl) trivial) rfl hl.1 rfl (Nat.le_of_ble_eq_true rfl) dX5_halve_14 ⟨Nat.zero_le _, Nat.zero_le _⟩ rfl ?_
        refine x_ifb_ne (tgt := 26) hx hb dX5_halve_17 (by decide) (fun zc2 => ?_) (fun zc2 => False.elim (by first | exact absurd zc2 (by decide) | omega | (simp_all; done)))
        refine lv_aload_n hx hb dX5_halve_26 rfl (lv_at hl 0 rfl) ?_
        refine lv_iload_n hx hb dX5_halve_27 rfl (lv_at hl 1 rfl) ?_
        refine lv_iconst (v := (-1)) hx hb dX5_halve_28 (by decide) ?_
        refine k2_V hx hb hml hown hG cs_X5_62 (c5_closes l D cI cZ d S th b (-1) (by omega) hCC hap) (by decide) (pzV hK rfl hB0.rc hB0) rfl hl.1 rfl (Nat.le_of_ble_eq_true rfl) dX5_halve_29 ⟨Nat.zero_le _, Nat.zero_le _⟩ rfl hS (fun q h => h) (fun H locs hB0 hz hk hS => ?_)
        refine lv_aload_n hx hb dX5_halve_32 rfl (lv_at hl 0 rfl) ?_
        refine lv_iload_n hx hb dX5_halve_33 rfl (lv_at hl 1 rfl) ?_
        refine lv_iload_n hx hb dX5_halve_34 rfl (lv_at hl 2 rfl) ?_
        refine k1_V hx hb hml hown hG cs_X5_50 (by have h := c5_place l D cI cZ d (clB S b (-1)) th b key (by omega); rw [show fx ((clB S b (-1)).1 b) key = none from hf] at h; exact h) (by decide) (pzV hK rfl hB0.rc hB0) rfl hl.1 rfl (Nat.le_of_ble_eq_true rfl) dX5_halve_35 ⟨Nat.zero_le _, Nat.zero_le _⟩ rfl ?_
        refine lv_istore_n (lv' := [(3, .int ((-1))), (0, .ref (d 0)), (1, .int (nI (b))), (2, .int (key))]) hx hb dX5_halve_38 rfl hl (by decide) rfl (fun ls hl => ?_)
        refine lv_iload_n hx hb dX5_halve_39 rfl (lv_at hl 0 rfl) ?_
        refine lv_iconst (v := (-1)) hx hb dX5_halve_40 (by decide) ?_
        refine lv_icmp_ne (tgt := 50) hx hb dX5_halve_41 (by decide) (fun zc3 => False.elim (by first | exact absurd zc3 (by decide) | omega | (simp_all; done))) (fun zc3 => ?_)
        refine lv_aload_n hx hb dX5_halve_44 rfl (lv_at hl 1 rfl) ?_
        refine lv_iconst (v := nI 0) hx hb dX5_halve_45 (by decide) ?_
        refine k2_V hx hb hml hown hG cs_X5_82 (c5_says l D cI cZ d (clB S b (-1)) th false hap) (by decide) (pzV hK rfl hB0.rc hB0) rfl hl.1 rfl (Nat.le_of_ble_eq_true rfl) dX5_halve_46 ⟨Nat.zero_le _, Nat.zero_le _⟩ rfl hS (fun q h => h) (fun H locs hB0 hz hk hS => ?_)
        exact w_z (PB := (fun H => MdAt D cI cZ d (clB S b (-1)) (nI 0) H)) rfl hB0 hS hx hb hr hlocks dX5_halve_49
      | some i =>
        have hi := (fx_some hf).1
        by_cases hz0 : vf (S.1 b) i / 2 = 0
        · skip
          have e9 : sp_halve S (nI (b)) key = (0, false, clB (upB S b ((S.1 b).eraseIdx i)) b (-1)) := by simp [sp_halve, hbk, h2, hf, hz0]
          rw [e9]
          refine m_start (by decide) (Nat.le_of_ble_eq_true rfl) ?_
          intro p e s m below meth c hx hb hr hG hown hlocks hml hB ls hl
          have hl : lv_has ls 5 [(0, .ref (d 0)), (1, .int (nI (b))), (2, .int (key))] := hl
          obtain ⟨hB0, hK⟩ := hB
          have hS : va_S (Ao d 9) s.heap s.heap [] := va_S.rf
          refine lv_iload_n hx hb dX5_halve_0 rfl (lv_at hl 1 rfl) ?_
          refine k1_S hx hb hml hown hG cs_X5_68 (by have h := c5_isBook l D (nI (b)); rw [rch_in (by omega) (by decide)] at h; exact h) (by decide) (pzS (hK.sub (tys' := []) [] rfl) trivial) rfl hl.1 rfl (Nat.le_of_ble_eq_true rfl) dX5_halve_1 ⟨Nat.zero_le _, Nat.zero_le _⟩ rfl ?_
          refine x_ifb_ne (tgt := 13) hx hb dX5_halve_4 (by decide) (fun zc1 => ?_) (fun zc1 => False.elim (by first | exact absurd zc1 (by decide) | omega | (simp_all; done)))
          refine lv_iload_n hx hb dX5_halve_13 rfl (lv_at hl 1 rfl) ?_
          refine k1_S hx hb hml hown hG cs_X5_86 (by have h := c5_isPlain l D (nI (b)); rw [rch_in (by omega) (by decide)] at h; exact h) (by decide) (pzS (hK.sub (tys' := []) [] rfl) trivial) rfl hl.1 rfl (Nat.le_of_ble_eq_true rfl) dX5_halve_14 ⟨Nat.zero_le _, Nat.zero_le _⟩ rfl ?_
          refine x_ifb_ne (tgt := 26) hx hb dX5_halve_17 (by decide) (fun zc2 => ?_) (fun zc2 => False.elim (by first | exact absurd zc2 (by decide) | omega | (simp_all; done)))
          refine lv_aload_n hx hb dX5_halve_26 rfl (lv_at hl 0 rfl) ?_
          refine lv_iload_n hx hb dX5_halve_27 rfl (lv_at hl 1 rfl) ?_
          refine lv_iconst (v := (-1)) hx hb dX5_halve_28 (by decide) ?_
          refine k2_V hx hb hml hown hG cs_X5_62 (c5_closes l D cI cZ d S th b (-1) (by omega) hCC hap) (by decide) (pzV hK rfl hB0.rc hB0) rfl hl.1 rfl (Nat.le_of_ble_eq_true rfl) dX5_halve_29 ⟨Nat.zero_le _, Nat.zero_le _⟩ rfl hS (fun q h => h) (fun H locs hB0 hz hk hS => ?_)
          refine lv_aload_n hx hb dX5_halve_32 rfl (lv_at hl 0 rfl) ?_
          refine lv_iload_n hx hb dX5_halve_33 rfl (lv_at hl 1 rfl) ?_
          refine lv_iload_n hx hb dX5_halve_34 rfl (lv_at hl 2 rfl) ?_
          refine k1_V hx hb hml hown hG cs_X5_50 (by have h := c5_place l D cI cZ d (clB S b (-1)) th b key (by omega); rw [show fx ((clB S b (-1)).1 b) key = some i from hf] at h; exact h) (by decide) (pzV hK rfl hB0.rc hB0) rfl hl.1 rfl (Nat.le_of_ble_eq_true rfl) dX5_halve_35 ⟨Nat.zero_le _, Nat.zero_le _⟩ rfl ?_
          refine lv_istore_n (lv' := [(3, .int (nI (i))), (0, .ref (d 0)), (1, .int (nI (b))), (2, .int (key))]) hx hb dX5_halve_38 rfl hl (by decide) rfl (fun ls hl => ?_)
          refine lv_iload_n hx hb dX5_halve_39 rfl (lv_at hl 0 rfl) ?_
          refine lv_iconst (v := (-1)) hx hb dX5_halve_40 (by decide) ?_
          refine lv_icmp_ne (tgt := 50) hx hb dX5_halve_41 (by decide) (fun zc3 => ?_) (fun zc3 => False.elim (by first | omega | contradiction | exact absurd zc3 (m1_ne _ (by omega)) | exact absurd zc3 (by decide) | exact absurd (Eq.symm zc3) (m1_ne _ (by omega)) | (simp_all; done)))
          refine lv_aload_n hx hb dX5_halve_50 rfl (lv_at hl 1 rfl) ?_
          obtain ⟨K, V, sz, cb, ck, ca, it, ou, hP, hMB, hMC, hMO⟩ := id hB0
          have hMB : MdB S.1 K V sz := hMB
          have hP : va_P D vwCl [(d 0, .inr (5, [.ref (d 1), .ref (d 2), .ref (d 3), .int (nI (S.2.1)), .int (th), .ref (d 4), .ref (d 5), .ref (d 6), .ref (d 7), .ref (d 8), .int (nI (S.2.2.2.length))])), (d 1, .inl (cI, (804, .inl K))), (d 2, .inl (cI, (804, .inl V))), (d 3, .inl (cI, (4, .inl sz))), (d 4, .inl (cI, (3, .inl cb))), (d 5, .inl (cI, (3, .inl ck))), (d 6, .inl (cI, (3, .inl ca))), (d 7, .inl (cZ, (3, .inl it))), (d 8, .inl (cI, (6000, .inl ou)))] H := hP
          have hD : va_D (Ao d 9) [(d 0, .inr (5, [.ref (d 1), .ref (d 2), .ref (d 3), .int (nI (S.2.1)), .int (th), .ref (d 4), .ref (d 5), .ref (d 6), .ref (d 7), .ref (d 8), .int (nI (S.2.2.2.length))])), (d 1, .inl (cI, (804, .inl K))), (d 2, .inl (cI, (804, .inl V))), (d 3, .inl (cI, (4, .inl sz))), (d 4, .inl (cI, (3, .inl cb))), (d 5, .inl (cI, (3, .inl ck))), (d 6, .inl (cI, (3, .inl ca))), (d 7, .inl (cZ, (3, .inl it))), (d 8, .inl (cI, (6000, .inl ou)))] := hap.D9
          refine gf_X5_13 hx hb hG hown hK hP 0 rfl rfl dX5_halve_51 ?_
          refine lv_sipush (v := nI 201) hx hb dX5_halve_54 (by decide) ?_
          refine lv_iload_n hx hb dX5_halve_57 rfl (lv_at hl 2 rfl) ?_
          refine x_imul (v := nI (201 * b)) hx hb dX5_halve_58 (pk_mul _ _) ?_
          refine lv_iload_n hx hb dX5_halve_59 rfl (lv_at hl 0 rfl) ?_
          refine x_iadd (v := nI ((201 * b) + i)) hx hb dX5_halve_60 (nI_add _ _) ?_
          refine x_iald hx hb hK hP 2 0 rfl rfl (by omega) (by decide) dX5_halve_61 ?_
          rw [show V ((201 * b) + i) = vf (S.1 b) i from ((hMB b (by omega)).2.2 i (by omega)).2]
          refine lv_iconst (v := nI 2) hx hb dX5_halve_62 (by decide) ?_
          refine lv_idiv hx hb dX5_halve_63 (by decide) ?_
          refine lv_istore (lv' := [(4, .int ((vf (S.1 b) i) / (nI (2)))), (3, .int (nI (i))), (0, .ref (d 0)), (1, .int (nI (b))), (2, .int (key))]) hx hb dX5_halve_64 hl (by decide) rfl (fun ls hl => ?_)
          refine lv_aload_n hx hb dX5_halve_66 rfl (lv_at hl 2 rfl) ?_
          refine gf_X5_13 hx hb hG hown hK hP 0 rfl rfl dX5_halve_67 ?_
          refine lv_sipush (v := nI 201) hx hb dX5_halve_70 (by decide) ?_
          refine lv_iload_n hx hb dX5_halve_73 rfl (lv_at hl 3 rfl) ?_
          refine x_imul (v := nI (201 * b)) hx hb dX5_halve_74 (pk_mul _ _) ?_
          refine lv_iload_n hx hb dX5_halve_75 rfl (lv_at hl 1 rfl) ?_
          refine x_iadd (v := nI ((201 * b) + i)) hx hb dX5_halve_76 (nI_add _ _) ?_
          refine lv_iload hx hb dX5_halve_77 (lv_at hl 0 rfl) ?_
          refine x_iast hx hb hK hP hD hS 2 0 rfl rfl (by omega) (by decide) dX5_halve_79 (fun H locs hP hD hS => ?_)
          have hP : va_P D vwCl [(d 0, .inr (5, [.ref (d 1), .ref (d 2), .ref (d 3), .int (nI (S.2.1)), .int (th), .ref (d 4), .ref (d 5), .ref (d 6), .ref (d 7), .ref (d 8), .int (nI (S.2.2.2.length))])), (d 1, .inl (cI, (804, .inl K))), (d 2, .inl (cI, (804, .inl (upd V ((201 * b) + i) ((vf (S.1 b) i) / (nI (2))))))), (d 3, .inl (cI, (4, .inl sz))), (d 4, .inl (cI, (3, .inl cb))), (d 5, .inl (cI, (3, .inl ck))), (d 6, .inl (cI, (3, .inl ca))), (d 7, .inl (cZ, (3, .inl it))), (d 8, .inl (cI, (6000, .inl ou)))] H := hP
          have hD : va_D (Ao d 9) [(d 0, .inr (5, [.ref (d 1), .ref (d 2), .ref (d 3), .int (nI (S.2.1)), .int (th), .ref (d 4), .ref (d 5), .ref (d 6), .ref (d 7), .ref (d 8), .int (nI (S.2.2.2.length))])), (d 1, .inl (cI, (804, .inl K))), (d 2, .inl (cI, (804, .inl (upd V ((201 * b) + i) ((vf (S.1 b) i) / (nI (2))))))), (d 3, .inl (cI, (4, .inl sz))), (d 4, .inl (cI, (3, .inl cb))), (d 5, .inl (cI, (3, .inl ck))), (d 6, .inl (cI, (3, .inl ca))), (d 7, .inl (cZ, (3, .inl it))), (d 8, .inl (cI, (6000, .inl ou)))] := hD
          refine lv_iload hx hb dX5_halve_80 (lv_at hl 0 rfl) ?_
          refine lv_if_ne (tgt := 91) hx hb dX5_halve_82 (by decide) (fun zc4 => False.elim (by first | omega | contradiction | exact absurd zc4 (m1_ne _ (by omega)) | exact absurd zc4 (by decide) | exact absurd (Eq.symm zc4) (m1_ne _ (by omega)) | (simp_all; done))) (fun zc4 => ?_)
          refine lv_aload_n hx hb dX5_halve_85 rfl (lv_at hl 2 rfl) ?_
          refine lv_iload_n hx hb dX5_halve_86 rfl (lv_at hl 3 rfl) ?_
          refine lv_iload_n hx hb dX5_halve_87 rfl (lv_at hl 1 rfl) ?_
          have hB0 : MdAt D cI cZ d (upB (clB S b (-1)) b (sv (S.1 b) i (vf (S.1 b) i / 2))) th H := ⟨K, _, sz, cb, ck, ca, it, ou, hP, MdB.val (B := S.1) hMB hb4 hi (vf (S.1 b) i / 2), hMC, hMO⟩
          refine k2_V hx hb hml hown hG cs_X5_46 (c5_takes l D cI cZ d (upB (clB S b (-1)) b (sv (S.1 b) i (vf (S.1 b) i / 2))) th b i (by omega) (by rw [upB_at, sv_len]; exact hi) hap) (by decide) (pzV hK rfl hB0.rc hB0) rfl hl.1 rfl (Nat.le_of_ble_eq_true rfl) dX5_halve_88 ⟨Nat.zero_le _, Nat.zero_le _⟩ rfl hS (fun q h => h) (fun H locs hB0 hz hk hS => ?_)
          rw [show (upB (upB (clB S b (-1)) b (sv (S.1 b) i (vf (S.1 b) i / 2))) b (((upB (clB S b (-1)) b (sv (S.1 b) i (vf (S.1 b) i / 2))).1 b).eraseIdx i)) = upB (clB S b (-1)) b ((S.1 b).eraseIdx i) from by rw [upB_up, upB_at, sv_era]] at hB0
          refine lv_aload_n hx hb dX5_halve_91 rfl (lv_at hl 2 rfl) ?_
          refine lv_iload hx hb dX5_halve_92 (lv_at hl 0 rfl) ?_
          refine lv_if_eq (tgt := 101) hx hb dX5_halve_94 (by decide) (fun zc5 => ?_) (fun zc5 => False.elim (by first | omega | contradiction | exact absurd zc5 (m1_ne _ (by omega)) | exact absurd zc5 (by decide) | exact absurd (Eq.symm zc5) (m1_ne _ (by omega)) | (simp_all; done)))
          refine lv_iconst (v := nI 0) hx hb dX5_halve_101 (by decide) ?_
          refine k2_V hx hb hml hown hG cs_X5_82 (c5_says l D cI cZ d (upB (clB S b (-1)) b ((S.1 b).eraseIdx i)) th false hap) (by decide) (pzV hK rfl hB0.rc hB0) rfl hl.1 rfl (Nat.le_of_ble_eq_true rfl) dX5_halve_102 ⟨Nat.zero_le _, Nat.zero_le _⟩ rfl hS (fun q h => h) (fun H locs hB0 hz hk hS => ?_)
          exact w_z (PB := (fun H => MdAt D cI cZ d (clB (upB S b ((S.1 b).eraseIdx i)) b (-1)) (nI 0) H)) rfl hB0 hS hx hb hr hlocks dX5_halve_105
        · skip
          have e9 : sp_halve S (nI (b)) key = (0, true, clB (upB S b (sv (S.1 b) i (vf (S.1 b) i / 2))) b (-1)) := by simp [sp_halve, hbk, h2, hf, hz0]
          rw [e9]
          refine m_start (by decide) (Nat.le_of_ble_eq_true rfl) ?_
          intro p e s m below meth c hx hb hr hG hown hlocks hml hB ls hl
          have hl : lv_has ls 5 [(0, .ref (d 0)), (1, .int (nI (b))), (2, .int (key))] := hl
          obtain ⟨hB0, hK⟩ := hB
          have hS : va_S (Ao d 9) s.heap s.heap [] := va_S.rf
          refine lv_iload_n hx hb dX5_halve_0 rfl (lv_at hl 1 rfl) ?_
          refine k1_S hx hb hml hown hG cs_X5_68 (by have h := c5_isBook l D (nI (b)); rw [rch_in (by omega) (by decide)] at h; exact h) (by decide) (pzS (hK.sub (tys' := []) [] rfl) trivial) rfl hl.1 rfl (Nat.le_of_ble_eq_true rfl) dX5_halve_1 ⟨Nat.zero_le _, Nat.zero_le _⟩ rfl ?_
          refine x_ifb_ne (tgt := 13) hx hb dX5_halve_4 (by decide) (fun zc1 => ?_) (fun zc1 => False.elim (by first | exact absurd zc1 (by decide) | omega | (simp_all; done)))
          refine lv_iload_n hx hb dX5_halve_13 rfl (lv_at hl 1 rfl) ?_
          refine k1_S hx hb hml hown hG cs_X5_86 (by have h := c5_isPlain l D (nI (b)); rw [rch_in (by omega) (by decide)] at h; exact h) (by decide) (pzS (hK.sub (tys' := []) [] rfl) trivial) rfl hl.1 rfl (Nat.le_of_ble_eq_true rfl) dX5_halve_14 ⟨Nat.zero_le _, Nat.zero_le _⟩ rfl ?_
          refine x_ifb_ne (tgt := 26) hx hb dX5_halve_17 (by decide) (fun zc2 => ?_) (fun zc2 => False.elim (by first | exact absurd zc2 (by decide) | omega | (simp_all; done)))
          refine lv_aload_n hx hb dX5_halve_26 rfl (lv_at hl 0 rfl) ?_
          refine lv_iload_n hx hb dX5_halve_27 rfl (lv_at hl 1 rfl) ?_
          refine lv_iconst (v := (-1)) hx hb dX5_halve_28 (by decide) ?_
          refine k2_V hx hb hml hown hG cs_X5_62 (c5_closes l D cI cZ d S th b (-1) (by omega) hCC hap) (by decide) (pzV hK rfl hB0.rc hB0) rfl hl.1 rfl (Nat.le_of_ble_eq_true rfl) dX5_halve_29 ⟨Nat.zero_le _, Nat.zero_le _⟩ rfl hS (fun q h => h) (fun H locs hB0 hz hk hS => ?_)
          refine lv_aload_n hx hb dX5_halve_32 rfl (lv_at hl 0 rfl) ?_
          refine lv_iload_n hx hb dX5_halve_33 rfl (lv_at hl 1 rfl) ?_
          refine lv_iload_n hx hb dX5_halve_34 rfl (lv_at hl 2 rfl) ?_
          refine k1_V hx hb hml hown hG cs_X5_50 (by have h := c5_place l D cI cZ d (clB S b (-1)) th b key (by omega); rw [show fx ((clB S b (-1)).1 b) key = some i from hf] at h; exact h) (by decide) (pzV hK rfl hB0.rc hB0) rfl hl.1 rfl (Nat.le_of_ble_eq_true rfl) dX5_halve_35 ⟨Nat.zero_le _, Nat.zero_le _⟩ rfl ?_
          refine lv_istore_n (lv' := [(3, .int (nI (i))), (0, .ref (d 0)), (1, .int (nI (b))), (2, .int (key))]) hx hb dX5_halve_38 rfl hl (by decide) rfl (fun ls hl => ?_)
          refine lv_iload_n hx hb dX5_halve_39 rfl (lv_at hl 0 rfl) ?_
          refine lv_iconst (v := (-1)) hx hb dX5_halve_40 (by decide) ?_
          refine lv_icmp_ne (tgt := 50) hx hb dX5_halve_41 (by decide) (fun zc3 => ?_) (fun zc3 => False.elim (by first | omega | contradiction | exact absurd zc3 (m1_ne _ (by omega)) | exact absurd zc3 (by decide) | exact absurd (Eq.symm zc3) (m1_ne _ (by omega)) | (simp_all; done)))
          refine lv_aload_n hx hb dX5_halve_50 rfl (lv_at hl 1 rfl) ?_
          obtain ⟨K, V, sz, cb, ck, ca, it, ou, hP, hMB, hMC, hMO⟩ := id hB0
          have hMB : MdB S.1 K V sz := hMB
          have hP : va_P D vwCl [(d 0, .inr (5, [.ref (d 1), .ref (d 2), .ref (d 3), .int (nI (S.2.1)), .int (th), .ref (d 4), .ref (d 5), .ref (d 6), .ref (d 7), .ref (d 8), .int (nI (S.2.2.2.length))])), (d 1, .inl (cI, (804, .inl K))), (d 2, .inl (cI, (804, .inl V))), (d 3, .inl (cI, (4, .inl sz))), (d 4, .inl (cI, (3, .inl cb))), (d 5, .inl (cI, (3, .inl ck))), (d 6, .inl (cI, (3, .inl ca))), (d 7, .inl (cZ, (3, .inl it))), (d 8, .inl (cI, (6000, .inl ou)))] H := hP
          have hD : va_D (Ao d 9) [(d 0, .inr (5, [.ref (d 1), .ref (d 2), .ref (d 3), .int (nI (S.2.1)), .int (th), .ref (d 4), .ref (d 5), .ref (d 6), .ref (d 7), .ref (d 8), .int (nI (S.2.2.2.length))])), (d 1, .inl (cI, (804, .inl K))), (d 2, .inl (cI, (804, .inl V))), (d 3, .inl (cI, (4, .inl sz))), (d 4, .inl (cI, (3, .inl cb))), (d 5, .inl (cI, (3, .inl ck))), (d 6, .inl (cI, (3, .inl ca))), (d 7, .inl (cZ, (3, .inl it))), (d 8, .inl (cI, (6000, .inl ou)))] := hap.D9
          refine gf_X5_13 hx hb hG hown hK hP 0 rfl rfl dX5_halve_51 ?_
          refine lv_sipush (v := nI 201) hx hb dX5_halve_54 (by decide) ?_
          refine lv_iload_n hx hb dX5_halve_57 rfl (lv_at hl 2 rfl) ?_
          refine x_imul (v := nI (201 * b)) hx hb dX5_halve_58 (pk_mul _ _) ?_
          refine lv_iload_n hx hb dX5_halve_59 rfl (lv_at hl 0 rfl) ?_
          refine x_iadd (v := nI ((201 * b) + i)) hx hb dX5_halve_60 (nI_add _ _) ?_
          refine x_iald hx hb hK hP 2 0 rfl rfl (by omega) (by decide) dX5_halve_61 ?_
          rw [show V ((201 * b) + i) = vf (S.1 b) i from ((hMB b (by omega)).2.2 i (by omega)).2]
          refine lv_iconst (v := nI 2) hx hb dX5_halve_62 (by decide) ?_
          refine lv_idiv hx hb dX5_halve_63 (by decide) ?_
          refine lv_istore (lv' := [(4, .int ((vf (S.1 b) i) / (nI (2)))), (3, .int (nI (i))), (0, .ref (d 0)), (1, .int (nI (b))), (2, .int (key))]) hx hb dX5_halve_64 hl (by decide) rfl (fun ls hl => ?_)
          refine lv_aload_n hx hb dX5_halve_66 rfl (lv_at hl 2 rfl) ?_
          refine gf_X5_13 hx hb hG hown hK hP 0 rfl rfl dX5_halve_67 ?_
          refine lv_sipush (v := nI 201) hx hb dX5_halve_70 (by decide) ?_
          refine lv_iload_n hx hb dX5_halve_73 rfl (lv_at hl 3 rfl) ?_
          refine x_imul (v := nI (201 * b)) hx hb dX5_halve_74 (pk_mul _ _) ?_
          refine lv_iload_n hx hb dX5_halve_75 rfl (lv_at hl 1 rfl) ?_
          refine x_iadd (v := nI ((201 * b) + i)) hx hb dX5_halve_76 (nI_add _ _) ?_
          refine lv_iload hx hb dX5_halve_77 (lv_at hl 0 rfl) ?_
          refine x_iast hx hb hK hP hD hS 2 0 rfl rfl (by omega) (by decide) dX5_halve_79 (fun H locs hP hD hS => ?_)
          have hP : va_P D vwCl [(d 0, .inr (5, [.ref (d 1), .ref (d 2), .ref (d 3), .int (nI (S.2.1)), .int (th), .ref (d 4), .ref (d 5), .ref (d 6), .ref (d 7), .ref (d 8), .int (nI (S.2.2.2.length))])), (d 1, .inl (cI, (804, .inl K))), (d 2, .inl (cI, (804, .inl (upd V ((201 * b) + i) ((vf (S.1 b) i) / (nI (2))))))), (d 3, .inl (cI, (4, .inl sz))), (d 4, .inl (cI, (3, .inl cb))), (d 5, .inl (cI, (3, .inl ck))), (d 6, .inl (cI, (3, .inl ca))), (d 7, .inl (cZ, (3, .inl it))), (d 8, .inl (cI, (6000, .inl ou)))] H := hP
          have hD : va_D (Ao d 9) [(d 0, .inr (5, [.ref (d 1), .ref (d 2), .ref (d 3), .int (nI (S.2.1)), .int (th), .ref (d 4), .ref (d 5), .ref (d 6), .ref (d 7), .ref (d 8), .int (nI (S.2.2.2.length))])), (d 1, .inl (cI, (804, .inl K))), (d 2, .inl (cI, (804, .inl (upd V ((201 * b) + i) ((vf (S.1 b) i) / (nI (2))))))), (d 3, .inl (cI, (4, .inl sz))), (d 4, .inl (cI, (3, .inl cb))), (d 5, .inl (cI, (3, .inl ck))), (d 6, .inl (cI, (3, .inl ca))), (d 7, .inl (cZ, (3, .inl it))), (d 8, .inl (cI, (6000, .inl ou)))] := hD
          refine lv_iload hx hb dX5_halve_80 (lv_at hl 0 rfl) ?_
          refine lv_if_ne (tgt := 91) hx hb dX5_halve_82 (by decide) (fun zc4 => ?_) (fun zc4 => False.elim (by first | omega | contradiction | exact absurd zc4 (m1_ne _ (by omega)) | exact absurd zc4 (by decide) | exact absurd (Eq.symm zc4) (m1_ne _ (by omega)) | (simp_all; done)))
          refine lv_aload_n hx hb dX5_halve_91 rfl (lv_at hl 2 rfl) ?_
          refine lv_iload hx hb dX5_halve_92 (lv_at hl 0 rfl) ?_
          refine lv_if_eq (tgt := 101) hx hb dX5_halve_94 (by decide) (fun zc5 => False.elim (by first | omega | contradiction | exact absurd zc5 (m1_ne _ (by omega)) | exact absurd zc5 (by decide) | exact absurd (Eq.symm zc5) (m1_ne _ (by omega)) | (simp_all; done))) (fun zc5 => ?_)
          refine lv_iconst (v := nI 1) hx hb dX5_halve_97 (by decide) ?_
          refine lv_goto (tgt := 102) hx hb dX5_halve_98 (by decide) ?_
          have hB0 : MdAt D cI cZ d (upB (clB S b (-1)) b (sv (S.1 b) i (vf (S.1 b) i / 2))) th H := ⟨K, _, sz, cb, ck, ca, it, ou, hP, MdB.val (B := S.1) hMB hb4 hi (vf (S.1 b) i / 2), hMC, hMO⟩
          refine k2_V hx hb hml hown hG cs_X5_82 (c5_says l D cI cZ d (upB (clB S b (-1)) b (sv (S.1 b) i (vf (S.1 b) i / 2))) th true hap) (by decide) (pzV hK rfl hB0.rc hB0) rfl hl.1 rfl (Nat.le_of_ble_eq_true rfl) dX5_halve_102 ⟨Nat.zero_le _, Nat.zero_le _⟩ rfl hS (fun q h => h) (fun H locs hB0 hz hk hS => ?_)
          exact w_z (PB := (fun H => MdAt D cI cZ d (clB (upB S b (sv (S.1 b) i (vf (S.1 b) i / 2))) b (-1)) (nI 0) H)) rfl hB0 hS hx hb hr hlocks dX5_halve_105
  · skip
    have e9 : sp_halve S x key = (1, false, S) := by simp [sp_halve, hbk]
    rw [e9]
    refine m_start (by decide) (Nat.le_of_ble_eq_true rfl) ?_
    intro p e s m below meth c hx hb hr hG hown hlocks hml hB ls hl
    have hl : lv_has ls 5 [(0, .ref (d 0)), (1, .int (x)), (2, .int (key))] := hl
    obtain ⟨hB0, hK⟩ := hB
    have hS : va_S (Ao d 9) s.heap s.heap [] := va_S.rf
    refine lv_iload_n hx hb dX5_halve_0 rfl (lv_at hl 1 rfl) ?_
    refine k1_S hx hb hml hown hG cs_X5_68 (by have h := c5_isBook l D x; rw [hno] at h; exact h) (by decide) (pzS (hK.sub (tys' := []) [] rfl) trivial) rfl hl.1 rfl (Nat.le_of_ble_eq_true rfl) dX5_halve_1 ⟨Nat.zero_le _, Nat.zero_le _⟩ rfl ?_
    refine x_ifb_ne (tgt := 13) hx hb dX5_halve_4 (by decide) (fun zc1 => False.elim (by first | exact absurd zc1 (by decide) | omega | (simp_all; done))) (fun zc1 => ?_)
    refine lv_aload_n hx hb dX5_halve_7 rfl (lv_at hl 0 rfl) ?_
    refine lv_iconst (v := nI 1) hx hb dX5_halve_8 (by decide) ?_
    refine k2_V hx hb hml hown hG cs_X5_72 (c5_denies l D cI cZ d S th 1 hap) (by decide) (pzV hK rfl hB0.rc hB0) rfl hl.1 rfl (Nat.le_of_ble_eq_true rfl) dX5_halve_9 ⟨Nat.zero_le _, Nat.zero_le _⟩ rfl hS (fun q h => h) (fun H locs hB0 hz hk hS => ?_)
    exact w_z (PB := (fun H => MdAt D cI cZ d S (nI 1) H)) rfl hB0 hS hx hb hr hlocks dX5_halve_12
set_option maxHeartbeats 4000000 in
set_option maxRecDepth 100000 in
theorem m_replace (l : Launch) (D : va_G) (cI cZ : ClassId) (d : Nat → Nat) (S : St) (th : Int32) (x key v : Int32) (hI : Inv S) (hap : Ap d 9) : Met l yX5_replace (ws_ yX5_replace cX5_replace 5 (some .boolean)) (rmN 4) (va_Pc [.ref (d 0), .int x, .int key, .int v] (pz D [(cI, .int), (cZ, .boolean)] (fun H => MdAt D cI cZ d S th H))) (Wq (some (.int (bI (sp_replace S x key v).2.1))) (fun H => MdAt D cI cZ d (sp_replace S x key v).2.2 (nI (sp_replace S x key v).1) H) (Ao d 9)) 0 0 (Ao d 9) := by
  have hbd2 : S.2.1 ≤ 40 := hI.2.2.2.1
  have hCC : ∀ cu, cu < 3 → ∀ y, S.2.2.1 cu = some y → y.1 < 4 := fun cu hcu y hy => by have h := hI.2.2.2.2.1 cu hcu; rw [hy] at h; exact h.1
  rcases bkn_cases 4 (by decide) x with ⟨b, hb4, rfl, hbk⟩ | ⟨hbk, hno⟩
  · have hN := hI.1 b hb4
    by_cases h3 : b = 3
    · subst h3
      have e9 : sp_replace S (nI (3)) key v = (2, false, S) := by simp [sp_replace, hbk]
      rw [e9]
      refine m_start (by decide) (Nat.le_of_ble_eq_true rfl) ?_
      intro p e s m below meth c hx hb hr hG hown hlocks hml hB ls hl
      have hl : lv_has ls 5 [(0, .ref (d 0)), (1, .int (nI (3))), (2, .int (key)), (3, .int (v))] := hl
      obtain ⟨hB0, hK⟩ := hB
      have hS : va_S (Ao d 9) s.heap s.heap [] := va_S.rf
      refine lv_iload_n hx hb dX5_replace_0 rfl (lv_at hl 1 rfl) ?_
      refine k1_S hx hb hml hown hG cs_X5_68 (by have h := c5_isBook l D (nI (3)); rw [rch_in (by omega) (by decide)] at h; exact h) (by decide) (pzS (hK.sub (tys' := []) [] rfl) trivial) rfl hl.1 rfl (Nat.le_of_ble_eq_true rfl) dX5_replace_1 ⟨Nat.zero_le _, Nat.zero_le _⟩ rfl ?_
      refine x_ifb_ne (tgt := 13) hx hb dX5_replace_4 (by decide) (fun zc1 => ?_) (fun zc1 => False.elim (by first | exact absurd zc1 (by decide) | omega | (simp_all; done)))
      refine lv_iload_n hx hb dX5_replace_13 rfl (lv_at hl 1 rfl) ?_
      refine lv_iconst (v := nI 3) hx hb dX5_replace_14 (by decide) ?_
      refine x_cmp_ne (tgt := 24) hx hb dX5_replace_15 (by decide) (by omega) (by omega) (fun zc2 => False.elim (by first | exact absurd zc2 (by decide) | omega | (simp_all; done))) (fun zc2 => ?_)
      refine lv_aload_n hx hb dX5_replace_18 rfl (lv_at hl 0 rfl) ?_
      refine lv_iconst (v := nI 2) hx hb dX5_replace_19 (by decide) ?_
      refine k2_V hx hb hml hown hG cs_X5_72 (c5_denies l D cI cZ d S th 2 hap) (by decide) (pzV hK rfl hB0.rc hB0) rfl hl.1 rfl (Nat.le_of_ble_eq_true rfl) dX5_replace_20 ⟨Nat.zero_le _, Nat.zero_le _⟩ rfl hS (fun q h => h) (fun H locs hB0 hz hk hS => ?_)
      exact w_z (PB := (fun H => MdAt D cI cZ d S (nI 2) H)) rfl hB0 hS hx hb hr hlocks dX5_replace_23
    · skip
      cases hf : fx (S.1 b) key with
      | none =>
        have e9 : sp_replace S (nI (b)) key v = (0, false, clB S b (-1)) := by simp [sp_replace, hbk, h3, hf]
        rw [e9]
        refine m_start (by decide) (Nat.le_of_ble_eq_true rfl) ?_
        intro p e s m below meth c hx hb hr hG hown hlocks hml hB ls hl
        have hl : lv_has ls 5 [(0, .ref (d 0)), (1, .int (nI (b))), (2, .int (key)), (3, .int (v))] := hl
        obtain ⟨hB0, hK⟩ := hB
        have hS : va_S (Ao d 9) s.heap s.heap [] := va_S.rf
        refine lv_iload_n hx hb dX5_replace_0 rfl (lv_at hl 1 rfl) ?_
        refine k1_S hx hb hml hown hG cs_X5_68 (by have h := c5_isBook l D (nI (b)); rw [rch_in (by omega) (by decide)] at h; exact h) (by decide) (pzS (hK.sub (tys' := []) [] rfl) trivial) rfl hl.1 rfl (Nat.le_of_ble_eq_true rfl) dX5_replace_1 ⟨Nat.zero_le _, Nat.zero_le _⟩ rfl ?_
        refine x_ifb_ne (tgt := 13) hx hb dX5_replace_4 (by decide) (fun zc1 => ?_) (fun zc1 => False.elim (by first | exact absurd zc1 (by decide) | omega | (simp_all; done)))
        refine lv_iload_n hx hb dX5_replace_13 rfl (lv_at hl 1 rfl) ?_
        refine lv_iconst (v := nI 3) hx hb dX5_replace_14 (by decide) ?_
        refine x_cmp_ne (tgt := 24) hx hb dX5_replace_15 (by decide) (by omega) (by omega) (fun zc2 => ?_) (fun zc2 => False.elim (by first | omega | contradiction | exact absurd zc2 (m1_ne _ (by omega)) | exact absurd zc2 (by decide) | exact absurd (Eq.symm zc2) (m1_ne _ (by omega)) | (simp_all; done)))
        refine lv_aload_n hx hb dX5_replace_24 rfl (lv_at hl 0 rfl) ?_
        refine lv_iload_n hx hb dX5_replace_25 rfl (lv_at hl 1 rfl) ?_
        refine lv_iconst (v := (-1)) hx hb dX5_replace_26 (by decide) ?_
        refine k2_V hx hb hml hown hG cs_X5_62 (c5_closes l D cI cZ d S th b (-1) (by omega) hCC hap) (by decide) (pzV hK rfl hB0.rc hB0) rfl hl.1 rfl (Nat.le_of_ble_eq_true rfl) dX5_replace_27 ⟨Nat.zero_le _, Nat.zero_le _⟩ rfl hS (fun q h => h) (fun H locs hB0 hz hk hS => ?_)
        refine lv_aload_n hx hb dX5_replace_30 rfl (lv_at hl 0 rfl) ?_
        refine lv_iload_n hx hb dX5_replace_31 rfl (lv_at hl 1 rfl) ?_
        refine lv_iload_n hx hb dX5_replace_32 rfl (lv_at hl 2 rfl) ?_
        refine k1_V hx hb hml hown hG cs_X5_50 (by have h := c5_place l D cI cZ d (clB S b (-1)) th b key (by omega); rw [show fx ((clB S b (-1)).1 b) key = none from hf] at h; exact h) (by decide) (pzV hK rfl hB0.rc hB0) rfl hl.1 rfl (Nat.le_of_ble_eq_true rfl) dX5_replace_33 ⟨Nat.zero_le _, Nat.zero_le _⟩ rfl ?_
        refine lv_istore (lv' := [(4, .int ((-1))), (0, .ref (d 0)), (1, .int (nI (b))), (2, .int (key)), (3, .int (v))]) hx hb dX5_replace_36 hl (by decide) rfl (fun ls hl => ?_)
        refine lv_iload hx hb dX5_replace_38 (lv_at hl 0 rfl) ?_
        refine lv_iconst (v := (-1)) hx hb dX5_replace_40 (by decide) ?_
        refine lv_icmp_eq (tgt := 58) hx hb dX5_replace_41 (by decide) (fun zc3 => ?_) (fun zc3 => False.elim (by first | exact absurd zc3 (by decide) | omega | (simp_all; done)))
        refine lv_aload_n hx hb dX5_replace_58 rfl (lv_at hl 1 rfl) ?_
        refine lv_iload hx hb dX5_replace_59 (lv_at hl 0 rfl) ?_
        refine lv_iconst (v := (-1)) hx hb dX5_replace_61 (by decide) ?_
        refine lv_icmp_eq (tgt := 69) hx hb dX5_replace_62 (by decide) (fun zc4 => ?_) (fun zc4 => False.elim (by first | exact absurd zc4 (by decide) | omega | (simp_all; done)))
        refine lv_iconst (v := nI 0) hx hb dX5_replace_69 (by decide) ?_
        refine k2_V hx hb hml hown hG cs_X5_82 (c5_says l D cI cZ d (clB S b (-1)) th false hap) (by decide) (pzV hK rfl hB0.rc hB0) rfl hl.1 rfl (Nat.le_of_ble_eq_true rfl) dX5_replace_70 ⟨Nat.zero_le _, Nat.zero_le _⟩ rfl hS (fun q h => h) (fun H locs hB0 hz hk hS => ?_)
        exact w_z (PB := (fun H => MdAt D cI cZ d (clB S b (-1)) (nI 0) H)) rfl hB0 hS hx hb hr hlocks dX5_replace_73
      | some i =>
        have hi := (fx_some hf).1
        have e9 : sp_replace S (nI (b)) key v = (0, true, clB (upB S b (sv (S.1 b) i v)) b (-1)) := by simp [sp_replace, hbk, h3, hf]
        rw [e9]
        refine m_start (by decide) (Nat.le_of_ble_eq_true rfl) ?_
        intro p e s m below meth c hx hb hr hG hown hlocks hml hB ls hl
        have hl : lv_has ls 5 [(0, .ref (d 0)), (1, .int (nI (b))), (2, .int (key)), (3, .int (v))] := hl
        obtain ⟨hB0, hK⟩ := hB
        have hS : va_S (Ao d 9) s.heap s.heap [] := va_S.rf
        refine lv_iload_n hx hb dX5_replace_0 rfl (lv_at hl 1 rfl) ?_
        refine k1_S hx hb hml hown hG cs_X5_68 (by have h := c5_isBook l D (nI (b)); rw [rch_in (by omega) (by decide)] at h; exact h) (by decide) (pzS (hK.sub (tys' := []) [] rfl) trivial) rfl hl.1 rfl (Nat.le_of_ble_eq_true rfl) dX5_replace_1 ⟨Nat.zero_le _, Nat.zero_le _⟩ rfl ?_
        refine x_ifb_ne (tgt := 13) hx hb dX5_replace_4 (by decide) (fun zc1 => ?_) (fun zc1 => False.elim (by first | exact absurd zc1 (by decide) | omega | (simp_all; done)))
        refine lv_iload_n hx hb dX5_replace_13 rfl (lv_at hl 1 rfl) ?_
        refine lv_iconst (v := nI 3) hx hb dX5_replace_14 (by decide) ?_
        refine x_cmp_ne (tgt := 24) hx hb dX5_replace_15 (by decide) (by omega) (by omega) (fun zc2 => ?_) (fun zc2 => False.elim (by first | omega | contradiction | exact absurd zc2 (m1_ne _ (by omega)) | exact absurd zc2 (by decide) | exact absurd (Eq.symm zc2) (m1_ne _ (by omega)) | (simp_all; done)))
        refine lv_aload_n hx hb dX5_replace_24 rfl (lv_at hl 0 rfl) ?_
        refine lv_iload_n hx hb dX5_replace_25 rfl (lv_at hl 1 rfl) ?_
        refine lv_iconst (v := (-1)) hx hb dX5_replace_26 (by decide) ?_
        refine k2_V hx hb hml hown hG cs_X5_62 (c5_closes l D cI cZ d S th b (-1) (by omega) hCC hap) (by decide) (pzV hK rfl hB0.rc hB0) rfl hl.1 rfl (Nat.le_of_ble_eq_true rfl) dX5_replace_27 ⟨Nat.zero_le _, Nat.zero_le _⟩ rfl hS (fun q h => h) (fun H locs hB0 hz hk hS => ?_)
        refine lv_aload_n hx hb dX5_replace_30 rfl (lv_at hl 0 rfl) ?_
        refine lv_iload_n hx hb dX5_replace_31 rfl (lv_at hl 1 rfl) ?_
        refine lv_iload_n hx hb dX5_replace_32 rfl (lv_at hl 2 rfl) ?_
        refine k1_V hx hb hml hown hG cs_X5_50 (by have h := c5_place l D cI cZ d (clB S b (-1)) th b key (by omega); rw [show fx ((clB S b (-1)).1 b) key = some i from hf] at h; exact h) (by decide) (pzV hK rfl hB0.rc hB0) rfl hl.1 rfl (Nat.le_of_ble_eq_true rfl) dX5_replace_33 ⟨Nat.zero_le _, Nat.zero_le _⟩ rfl ?_
        refine lv_istore (lv' := [(4, .int (nI (i))), (0, .ref (d 0)), (1, .int (nI (b))), (2, .int (key)), (3, .int (v))]) hx hb dX5_replace_36 hl (by decide) rfl (fun ls hl => ?_)
        refine lv_iload hx hb dX5_replace_38 (lv_at hl 0 rfl) ?_
        refine lv_iconst (v := (-1)) hx hb dX5_replace_40 (by decide) ?_
        refine lv_icmp_eq (tgt := 58) hx hb dX5_replace_41 (by decide) (fun zc3 => False.elim (by first | omega | contradiction | exact absurd zc3 (m1_ne _ (by omega)) | exact absurd zc3 (by decide) | exact absurd (Eq.symm zc3) (m1_ne _ (by omega)) | (simp_all; done))) (fun zc3 => ?_)
        refine lv_aload_n hx hb dX5_replace_44 rfl (lv_at hl 1 rfl) ?_
        obtain ⟨K, V, sz, cb, ck, ca, it, ou, hP, hMB, hMC, hMO⟩ := id hB0
        have hMB : MdB S.1 K V sz := hMB
        have hP : va_P D vwCl [(d 0, .inr (5, [.ref (d 1), .ref (d 2), .ref (d 3), .int (nI (S.2.1)), .int (th), .ref (d 4), .ref (d 5), .ref (d 6), .ref (d 7), .ref (d 8), .int (nI (S.2.2.2.length))])), (d 1, .inl (cI, (804, .inl K))), (d 2, .inl (cI, (804, .inl V))), (d 3, .inl (cI, (4, .inl sz))), (d 4, .inl (cI, (3, .inl cb))), (d 5, .inl (cI, (3, .inl ck))), (d 6, .inl (cI, (3, .inl ca))), (d 7, .inl (cZ, (3, .inl it))), (d 8, .inl (cI, (6000, .inl ou)))] H := hP
        have hD : va_D (Ao d 9) [(d 0, .inr (5, [.ref (d 1), .ref (d 2), .ref (d 3), .int (nI (S.2.1)), .int (th), .ref (d 4), .ref (d 5), .ref (d 6), .ref (d 7), .ref (d 8), .int (nI (S.2.2.2.length))])), (d 1, .inl (cI, (804, .inl K))), (d 2, .inl (cI, (804, .inl V))), (d 3, .inl (cI, (4, .inl sz))), (d 4, .inl (cI, (3, .inl cb))), (d 5, .inl (cI, (3, .inl ck))), (d 6, .inl (cI, (3, .inl ca))), (d 7, .inl (cZ, (3, .inl it))), (d 8, .inl (cI, (6000, .inl ou)))] := hap.D9
        refine gf_X5_13 hx hb hG hown hK hP 0 rfl rfl dX5_replace_45 ?_
        refine lv_sipush (v := nI 201) hx hb dX5_replace_48 (by decide) ?_
        refine lv_iload_n hx hb dX5_replace_51 rfl (lv_at hl 2 rfl) ?_
        refine x_imul (v := nI (201 * b)) hx hb dX5_replace_52 (pk_mul _ _) ?_
        refine lv_iload hx hb dX5_replace_53 (lv_at hl 0 rfl) ?_
        refine x_iadd (v := nI ((201 * b) + i)) hx hb dX5_replace_55 (nI_add _ _) ?_
        refine lv_iload_n hx hb dX5_replace_56 rfl (lv_at hl 4 rfl) ?_
        refine x_iast hx hb hK hP hD hS 2 0 rfl rfl (by omega) (by decide) dX5_replace_57 (fun H locs hP hD hS => ?_)
        have hP : va_P D vwCl [(d 0, .inr (5, [.ref (d 1), .ref (d 2), .ref (d 3), .int (nI (S.2.1)), .int (th), .ref (d 4), .ref (d 5), .ref (d 6), .ref (d 7), .ref (d 8), .int (nI (S.2.2.2.length))])), (d 1, .inl (cI, (804, .inl K))), (d 2, .inl (cI, (804, .inl (upd V ((201 * b) + i) v)))), (d 3, .inl (cI, (4, .inl sz))), (d 4, .inl (cI, (3, .inl cb))), (d 5, .inl (cI, (3, .inl ck))), (d 6, .inl (cI, (3, .inl ca))), (d 7, .inl (cZ, (3, .inl it))), (d 8, .inl (cI, (6000, .inl ou)))] H := hP
        have hD : va_D (Ao d 9) [(d 0, .inr (5, [.ref (d 1), .ref (d 2), .ref (d 3), .int (nI (S.2.1)), .int (th), .ref (d 4), .ref (d 5), .ref (d 6), .ref (d 7), .ref (d 8), .int (nI (S.2.2.2.length))])), (d 1, .inl (cI, (804, .inl K))), (d 2, .inl (cI, (804, .inl (upd V ((201 * b) + i) v)))), (d 3, .inl (cI, (4, .inl sz))), (d 4, .inl (cI, (3, .inl cb))), (d 5, .inl (cI, (3, .inl ck))), (d 6, .inl (cI, (3, .inl ca))), (d 7, .inl (cZ, (3, .inl it))), (d 8, .inl (cI, (6000, .inl ou)))] := hD
        refine lv_aload_n hx hb dX5_replace_58 rfl (lv_at hl 1 rfl) ?_
        refine lv_iload hx hb dX5_replace_59 (lv_at hl 0 rfl) ?_
        refine lv_iconst (v := (-1)) hx hb dX5_replace_61 (by decide) ?_
        refine lv_icmp_eq (tgt := 69) hx hb dX5_replace_62 (by decide) (fun zc4 => False.elim (by first | omega | contradiction | exact absurd zc4 (m1_ne _ (by omega)) | exact absurd zc4 (by decide) | exact absurd (Eq.symm zc4) (m1_ne _ (by omega)) | (simp_all; done))) (fun zc4 => ?_)
        refine lv_iconst (v := nI 1) hx hb dX5_replace_65 (by decide) ?_
        refine lv_goto (tgt := 70) hx hb dX5_replace_66 (by decide) ?_
        have hB0 : MdAt D cI cZ d (upB (clB S b (-1)) b (sv (S.1 b) i v)) th H := ⟨K, _, sz, cb, ck, ca, it, ou, hP, MdB.val (B := S.1) hMB hb4 hi v, hMC, hMO⟩
        refine k2_V hx hb hml hown hG cs_X5_82 (c5_says l D cI cZ d (upB (clB S b (-1)) b (sv (S.1 b) i v)) th true hap) (by decide) (pzV hK rfl hB0.rc hB0) rfl hl.1 rfl (Nat.le_of_ble_eq_true rfl) dX5_replace_70 ⟨Nat.zero_le _, Nat.zero_le _⟩ rfl hS (fun q h => h) (fun H locs hB0 hz hk hS => ?_)
        exact w_z (PB := (fun H => MdAt D cI cZ d (clB (upB S b (sv (S.1 b) i v)) b (-1)) (nI 0) H)) rfl hB0 hS hx hb hr hlocks dX5_replace_73
  · skip
    have e9 : sp_replace S x key v = (1, false, S) := by simp [sp_replace, hbk]
    rw [e9]
    refine m_start (by decide) (Nat.le_of_ble_eq_true rfl) ?_
    intro p e s m below meth c hx hb hr hG hown hlocks hml hB ls hl
    have hl : lv_has ls 5 [(0, .ref (d 0)), (1, .int (x)), (2, .int (key)), (3, .int (v))] := hl
    obtain ⟨hB0, hK⟩ := hB
    have hS : va_S (Ao d 9) s.heap s.heap [] := va_S.rf
    refine lv_iload_n hx hb dX5_replace_0 rfl (lv_at hl 1 rfl) ?_
    refine k1_S hx hb hml hown hG cs_X5_68 (by have h := c5_isBook l D x; rw [hno] at h; exact h) (by decide) (pzS (hK.sub (tys' := []) [] rfl) trivial) rfl hl.1 rfl (Nat.le_of_ble_eq_true rfl) dX5_replace_1 ⟨Nat.zero_le _, Nat.zero_le _⟩ rfl ?_
    refine x_ifb_ne (tgt := 13) hx hb dX5_replace_4 (by decide) (fun zc1 => False.elim (by first | exact absurd zc1 (by decide) | omega | (simp_all; done))) (fun zc1 => ?_)
    refine lv_aload_n hx hb dX5_replace_7 rfl (lv_at hl 0 rfl) ?_
    refine lv_iconst (v := nI 1) hx hb dX5_replace_8 (by decide) ?_
    refine k2_V hx hb hml hown hG cs_X5_72 (c5_denies l D cI cZ d S th 1 hap) (by decide) (pzV hK rfl hB0.rc hB0) rfl hl.1 rfl (Nat.le_of_ble_eq_true rfl) dX5_replace_9 ⟨Nat.zero_le _, Nat.zero_le _⟩ rfl hS (fun q h => h) (fun H locs hB0 hz hk hS => ?_)
    exact w_z (PB := (fun H => MdAt D cI cZ d S (nI 1) H)) rfl hB0 hS hx hb hr hlocks dX5_replace_12
set_option maxHeartbeats 4000000 in
set_option maxRecDepth 100000 in
theorem m_remove (l : Launch) (D : va_G) (cI cZ : ClassId) (d : Nat → Nat) (S : St) (th : Int32) (x key : Int32) (hI : Inv S) (hap : Ap d 9) : Met l yX5_remove (ws_ yX5_remove cX5_remove 5 (some .int)) (rmN 4) (va_Pc [.ref (d 0), .int x, .int key] (pz D [(cI, .int), (cZ, .boolean)] (fun H => MdAt D cI cZ d S th H))) (Wq (some (.int (sp_remove S x key).2.1)) (fun H => MdAt D cI cZ d (sp_remove S x key).2.2 (nI (sp_remove S x key).1) H) (Ao d 9)) 0 0 (Ao d 9) := by
  have hbd2 : S.2.1 ≤ 40 := hI.2.2.2.1
  have hCC : ∀ cu, cu < 3 → ∀ y, S.2.2.1 cu = some y → y.1 < 4 := fun cu hcu y hy => by have h := hI.2.2.2.2.1 cu hcu; rw [hy] at h; exact h.1
  rcases bkn_cases 4 (by decide) x with ⟨b, hb4, rfl, hbk⟩ | ⟨hbk, hno⟩
  · have hN := hI.1 b hb4
    by_cases h3 : b = 3
    · subst h3
      have e9 : sp_remove S (nI (3)) key = (2, 0, S) := by simp [sp_remove, hbk]
      rw [e9]
      refine m_start (by decide) (Nat.le_of_ble_eq_true rfl) ?_
      intro p e s m below meth c hx hb hr hG hown hlocks hml hB ls hl
      have hl : lv_has ls 5 [(0, .ref (d 0)), (1, .int (nI (3))), (2, .int (key))] := hl
      obtain ⟨hB0, hK⟩ := hB
      have hS : va_S (Ao d 9) s.heap s.heap [] := va_S.rf
      refine lv_iload_n hx hb dX5_remove_0 rfl (lv_at hl 1 rfl) ?_
      refine k1_S hx hb hml hown hG cs_X5_68 (by have h := c5_isBook l D (nI (3)); rw [rch_in (by omega) (by decide)] at h; exact h) (by decide) (pzS (hK.sub (tys' := []) [] rfl) trivial) rfl hl.1 rfl (Nat.le_of_ble_eq_true rfl) dX5_remove_1 ⟨Nat.zero_le _, Nat.zero_le _⟩ rfl ?_
      refine x_ifb_ne (tgt := 13) hx hb dX5_remove_4 (by decide) (fun zc1 => ?_) (fun zc1 => False.elim (by first | exact absurd zc1 (by decide) | omega | (simp_all; done)))
      refine lv_iload_n hx hb dX5_remove_13 rfl (lv_at hl 1 rfl) ?_
      refine lv_iconst (v := nI 3) hx hb dX5_remove_14 (by decide) ?_
      refine x_cmp_ne (tgt := 24) hx hb dX5_remove_15 (by decide) (by omega) (by omega) (fun zc2 => False.elim (by first | exact absurd zc2 (by decide) | omega | (simp_all; done))) (fun zc2 => ?_)
      refine lv_aload_n hx hb dX5_remove_18 rfl (lv_at hl 0 rfl) ?_
      refine lv_iconst (v := nI 2) hx hb dX5_remove_19 (by decide) ?_
      refine k2_V hx hb hml hown hG cs_X5_58 (c5_refuse l D cI cZ d S th 2 hap) (by decide) (pzV hK rfl hB0.rc hB0) rfl hl.1 rfl (Nat.le_of_ble_eq_true rfl) dX5_remove_20 ⟨Nat.zero_le _, Nat.zero_le _⟩ rfl hS (fun q h => h) (fun H locs hB0 hz hk hS => ?_)
      exact w_i (PB := (fun H => MdAt D cI cZ d S (nI 2) H)) rfl hB0 hS hx hb hr hlocks dX5_remove_23
    · skip
      cases hf : fx (S.1 b) key with
      | none =>
        have e9 : sp_remove S (nI (b)) key = (3, 0, S) := by simp [sp_remove, hbk, h3, hf]
        rw [e9]
        refine m_start (by decide) (Nat.le_of_ble_eq_true rfl) ?_
        intro p e s m below meth c hx hb hr hG hown hlocks hml hB ls hl
        have hl : lv_has ls 5 [(0, .ref (d 0)), (1, .int (nI (b))), (2, .int (key))] := hl
        obtain ⟨hB0, hK⟩ := hB
        have hS : va_S (Ao d 9) s.heap s.heap [] := va_S.rf
        refine lv_iload_n hx hb dX5_remove_0 rfl (lv_at hl 1 rfl) ?_
        refine k1_S hx hb hml hown hG cs_X5_68 (by have h := c5_isBook l D (nI (b)); rw [rch_in (by omega) (by decide)] at h; exact h) (by decide) (pzS (hK.sub (tys' := []) [] rfl) trivial) rfl hl.1 rfl (Nat.le_of_ble_eq_true rfl) dX5_remove_1 ⟨Nat.zero_le _, Nat.zero_le _⟩ rfl ?_
        refine x_ifb_ne (tgt := 13) hx hb dX5_remove_4 (by decide) (fun zc1 => ?_) (fun zc1 => False.elim (by first | exact absurd zc1 (by decide) | omega | (simp_all; done)))
        refine lv_iload_n hx hb dX5_remove_13 rfl (lv_at hl 1 rfl) ?_
        refine lv_iconst (v := nI 3) hx hb dX5_remove_14 (by decide) ?_
        refine x_cmp_ne (tgt := 24) hx hb dX5_remove_15 (by decide) (by omega) (by omega) (fun zc2 => ?_) (fun zc2 => False.elim (by first | omega | contradiction | exact absurd zc2 (m1_ne _ (by omega)) | exact absurd zc2 (by decide) | exact absurd (Eq.symm zc2) (m1_ne _ (by omega)) | (simp_all; done)))
        refine lv_aload_n hx hb dX5_remove_24 rfl (lv_at hl 0 rfl) ?_
        refine lv_iload_n hx hb dX5_remove_25 rfl (lv_at hl 1 rfl) ?_
        refine lv_iload_n hx hb dX5_remove_26 rfl (lv_at hl 2 rfl) ?_
        refine k1_V hx hb hml hown hG cs_X5_50 (by have h := c5_place l D cI cZ d S th b key (by omega); rw [hf] at h; exact h) (by decide) (pzV hK rfl hB0.rc hB0) rfl hl.1 rfl (Nat.le_of_ble_eq_true rfl) dX5_remove_27 ⟨Nat.zero_le _, Nat.zero_le _⟩ rfl ?_
        refine lv_istore_n (lv' := [(3, .int ((-1))), (0, .ref (d 0)), (1, .int (nI (b))), (2, .int (key))]) hx hb dX5_remove_30 rfl hl (by decide) rfl (fun ls hl => ?_)
        refine lv_iload_n hx hb dX5_remove_31 rfl (lv_at hl 0 rfl) ?_
        refine lv_iconst (v := (-1)) hx hb dX5_remove_32 (by decide) ?_
        refine lv_icmp_ne (tgt := 42) hx hb dX5_remove_33 (by decide) (fun zc3 => False.elim (by first | exact absurd zc3 (by decide) | omega | (simp_all; done))) (fun zc3 => ?_)
        refine lv_aload_n hx hb dX5_remove_36 rfl (lv_at hl 1 rfl) ?_
        refine lv_iconst (v := nI 3) hx hb dX5_remove_37 (by decide) ?_
        refine k2_V hx hb hml hown hG cs_X5_58 (c5_refuse l D cI cZ d S th 3 hap) (by decide) (pzV hK rfl hB0.rc hB0) rfl hl.1 rfl (Nat.le_of_ble_eq_true rfl) dX5_remove_38 ⟨Nat.zero_le _, Nat.zero_le _⟩ rfl hS (fun q h => h) (fun H locs hB0 hz hk hS => ?_)
        exact w_i (PB := (fun H => MdAt D cI cZ d S (nI 3) H)) rfl hB0 hS hx hb hr hlocks dX5_remove_41
      | some i =>
        have hi := (fx_some hf).1
        have e9 : sp_remove S (nI (b)) key = (0, vf (S.1 b) i, clB (upB S b ((S.1 b).eraseIdx i)) b (-1)) := by simp [sp_remove, hbk, h3, hf]
        rw [e9]
        refine m_start (by decide) (Nat.le_of_ble_eq_true rfl) ?_
        intro p e s m below meth c hx hb hr hG hown hlocks hml hB ls hl
        have hl : lv_has ls 5 [(0, .ref (d 0)), (1, .int (nI (b))), (2, .int (key))] := hl
        obtain ⟨hB0, hK⟩ := hB
        have hS : va_S (Ao d 9) s.heap s.heap [] := va_S.rf
        refine lv_iload_n hx hb dX5_remove_0 rfl (lv_at hl 1 rfl) ?_
        refine k1_S hx hb hml hown hG cs_X5_68 (by have h := c5_isBook l D (nI (b)); rw [rch_in (by omega) (by decide)] at h; exact h) (by decide) (pzS (hK.sub (tys' := []) [] rfl) trivial) rfl hl.1 rfl (Nat.le_of_ble_eq_true rfl) dX5_remove_1 ⟨Nat.zero_le _, Nat.zero_le _⟩ rfl ?_
        refine x_ifb_ne (tgt := 13) hx hb dX5_remove_4 (by decide) (fun zc1 => ?_) (fun zc1 => False.elim (by first | exact absurd zc1 (by decide) | omega | (simp_all; done)))
        refine lv_iload_n hx hb dX5_remove_13 rfl (lv_at hl 1 rfl) ?_
        refine lv_iconst (v := nI 3) hx hb dX5_remove_14 (by decide) ?_
        refine x_cmp_ne (tgt := 24) hx hb dX5_remove_15 (by decide) (by omega) (by omega) (fun zc2 => ?_) (fun zc2 => False.elim (by first | omega | contradiction | exact absurd zc2 (m1_ne _ (by omega)) | exact absurd zc2 (by decide) | exact absurd (Eq.symm zc2) (m1_ne _ (by omega)) | (simp_all; done)))
        refine lv_aload_n hx hb dX5_remove_24 rfl (lv_at hl 0 rfl) ?_
        refine lv_iload_n hx hb dX5_remove_25 rfl (lv_at hl 1 rfl) ?_
        refine lv_iload_n hx hb dX5_remove_26 rfl (lv_at hl 2 rfl) ?_
        refine k1_V hx hb hml hown hG cs_X5_50 (by have h := c5_place l D cI cZ d S th b key (by omega); rw [hf] at h; exact h) (by decide) (pzV hK rfl hB0.rc hB0) rfl hl.1 rfl (Nat.le_of_ble_eq_true rfl) dX5_remove_27 ⟨Nat.zero_le _, Nat.zero_le _⟩ rfl ?_
        refine lv_istore_n (lv' := [(3, .int (nI (i))), (0, .ref (d 0)), (1, .int (nI (b))), (2, .int (key))]) hx hb dX5_remove_30 rfl hl (by decide) rfl (fun ls hl => ?_)
        refine lv_iload_n hx hb dX5_remove_31 rfl (lv_at hl 0 rfl) ?_
        refine lv_iconst (v := (-1)) hx hb dX5_remove_32 (by decide) ?_
        refine lv_icmp_ne (tgt := 42) hx hb dX5_remove_33 (by decide) (fun zc3 => ?_) (fun zc3 => False.elim (by first | omega | contradiction | exact absurd zc3 (m1_ne _ (by omega)) | exact absurd zc3 (by decide) | exact absurd (Eq.symm zc3) (m1_ne _ (by omega)) | (simp_all; done)))
        refine lv_aload_n hx hb dX5_remove_42 rfl (lv_at hl 1 rfl) ?_
        obtain ⟨K, V, sz, cb, ck, ca, it, ou, hP, hMB, hMC, hMO⟩ := id hB0
        have hP : va_P D vwCl [(d 0, .inr (5, [.ref (d 1), .ref (d 2), .ref (d 3), .int (nI (S.2.1)), .int (th), .ref (d 4), .ref (d 5), .ref (d 6), .ref (d 7), .ref (d 8), .int (nI (S.2.2.2.length))])), (d 1, .inl (cI, (804, .inl K))), (d 2, .inl (cI, (804, .inl V))), (d 3, .inl (cI, (4, .inl sz))), (d 4, .inl (cI, (3, .inl cb))), (d 5, .inl (cI, (3, .inl ck))), (d 6, .inl (cI, (3, .inl ca))), (d 7, .inl (cZ, (3, .inl it))), (d 8, .inl (cI, (6000, .inl ou)))] s.heap := hP
        have hD : va_D (Ao d 9) [(d 0, .inr (5, [.ref (d 1), .ref (d 2), .ref (d 3), .int (nI (S.2.1)), .int (th), .ref (d 4), .ref (d 5), .ref (d 6), .ref (d 7), .ref (d 8), .int (nI (S.2.2.2.length))])), (d 1, .inl (cI, (804, .inl K))), (d 2, .inl (cI, (804, .inl V))), (d 3, .inl (cI, (4, .inl sz))), (d 4, .inl (cI, (3, .inl cb))), (d 5, .inl (cI, (3, .inl ck))), (d 6, .inl (cI, (3, .inl ca))), (d 7, .inl (cZ, (3, .inl it))), (d 8, .inl (cI, (6000, .inl ou)))] := hap.D9
        refine gf_X5_13 hx hb hG hown hK hP 0 rfl rfl dX5_remove_43 ?_
        refine lv_sipush (v := nI 201) hx hb dX5_remove_46 (by decide) ?_
        refine lv_iload_n hx hb dX5_remove_49 rfl (lv_at hl 2 rfl) ?_
        refine x_imul (v := nI (201 * b)) hx hb dX5_remove_50 (pk_mul _ _) ?_
        refine lv_iload_n hx hb dX5_remove_51 rfl (lv_at hl 0 rfl) ?_
        refine x_iadd (v := nI ((201 * b) + i)) hx hb dX5_remove_52 (nI_add _ _) ?_
        refine x_iald hx hb hK hP 2 0 rfl rfl (by omega) (by decide) dX5_remove_53 ?_
        rw [show V ((201 * b) + i) = vf (S.1 b) i from ((hMB b (by omega)).2.2 i (by omega)).2]
        refine lv_istore (lv' := [(4, .int (vf (S.1 b) i)), (3, .int (nI (i))), (0, .ref (d 0)), (1, .int (nI (b))), (2, .int (key))]) hx hb dX5_remove_54 hl (by decide) rfl (fun ls hl => ?_)
        refine lv_aload_n hx hb dX5_remove_56 rfl (lv_at hl 2 rfl) ?_
        refine lv_iload_n hx hb dX5_remove_57 rfl (lv_at hl 3 rfl) ?_
        refine lv_iload_n hx hb dX5_remove_58 rfl (lv_at hl 1 rfl) ?_
        refine k2_V hx hb hml hown hG cs_X5_46 (c5_takes l D cI cZ d S th b i (by omega) (hi) hap) (by decide) (pzV hK rfl hB0.rc hB0) rfl hl.1 rfl (Nat.le_of_ble_eq_true rfl) dX5_remove_59 ⟨Nat.zero_le _, Nat.zero_le _⟩ rfl hS (fun q h => h) (fun H locs hB0 hz hk hS => ?_)
        refine lv_aload_n hx hb dX5_remove_62 rfl (lv_at hl 2 rfl) ?_
        refine lv_iload_n hx hb dX5_remove_63 rfl (lv_at hl 3 rfl) ?_
        refine lv_iconst (v := (-1)) hx hb dX5_remove_64 (by decide) ?_
        refine k2_V hx hb hml hown hG cs_X5_62 (c5_closes l D cI cZ d (upB S b ((S.1 b).eraseIdx i)) th b (-1) (by omega) hCC hap) (by decide) (pzV hK rfl hB0.rc hB0) rfl hl.1 rfl (Nat.le_of_ble_eq_true rfl) dX5_remove_65 ⟨Nat.zero_le _, Nat.zero_le _⟩ rfl hS (fun q h => h) (fun H locs hB0 hz hk hS => ?_)
        refine lv_aload_n hx hb dX5_remove_68 rfl (lv_at hl 2 rfl) ?_
        refine lv_iload hx hb dX5_remove_69 (lv_at hl 0 rfl) ?_
        refine k2_V hx hb hml hown hG cs_X5_65 (c5_told l D cI cZ d (clB (upB S b ((S.1 b).eraseIdx i)) b (-1)) th (vf (S.1 b) i) hap) (by decide) (pzV hK rfl hB0.rc hB0) rfl hl.1 rfl (Nat.le_of_ble_eq_true rfl) dX5_remove_71 ⟨Nat.zero_le _, Nat.zero_le _⟩ rfl hS (fun q h => h) (fun H locs hB0 hz hk hS => ?_)
        exact w_i (PB := (fun H => MdAt D cI cZ d (clB (upB S b ((S.1 b).eraseIdx i)) b (-1)) (nI 0) H)) rfl hB0 hS hx hb hr hlocks dX5_remove_74
  · skip
    have e9 : sp_remove S x key = (1, 0, S) := by simp [sp_remove, hbk]
    rw [e9]
    refine m_start (by decide) (Nat.le_of_ble_eq_true rfl) ?_
    intro p e s m below meth c hx hb hr hG hown hlocks hml hB ls hl
    have hl : lv_has ls 5 [(0, .ref (d 0)), (1, .int (x)), (2, .int (key))] := hl
    obtain ⟨hB0, hK⟩ := hB
    have hS : va_S (Ao d 9) s.heap s.heap [] := va_S.rf
    refine lv_iload_n hx hb dX5_remove_0 rfl (lv_at hl 1 rfl) ?_
    refine k1_S hx hb hml hown hG cs_X5_68 (by have h := c5_isBook l D x; rw [hno] at h; exact h) (by decide) (pzS (hK.sub (tys' := []) [] rfl) trivial) rfl hl.1 rfl (Nat.le_of_ble_eq_true rfl) dX5_remove_1 ⟨Nat.zero_le _, Nat.zero_le _⟩ rfl ?_
    refine x_ifb_ne (tgt := 13) hx hb dX5_remove_4 (by decide) (fun zc1 => False.elim (by first | exact absurd zc1 (by decide) | omega | (simp_all; done))) (fun zc1 => ?_)
    refine lv_aload_n hx hb dX5_remove_7 rfl (lv_at hl 0 rfl) ?_
    refine lv_iconst (v := nI 1) hx hb dX5_remove_8 (by decide) ?_
    refine k2_V hx hb hml hown hG cs_X5_58 (c5_refuse l D cI cZ d S th 1 hap) (by decide) (pzV hK rfl hB0.rc hB0) rfl hl.1 rfl (Nat.le_of_ble_eq_true rfl) dX5_remove_9 ⟨Nat.zero_le _, Nat.zero_le _⟩ rfl hS (fun q h => h) (fun H locs hB0 hz hk hS => ?_)
    exact w_i (PB := (fun H => MdAt D cI cZ d S (nI 1) H)) rfl hB0 hS hx hb hr hlocks dX5_remove_12
set_option maxHeartbeats 4000000 in
set_option maxRecDepth 100000 in
theorem m_removePair (l : Launch) (D : va_G) (cI cZ : ClassId) (d : Nat → Nat) (S : St) (th : Int32) (x key v : Int32) (hI : Inv S) (hap : Ap d 9) : Met l yX5_removePair (ws_ yX5_removePair cX5_removePair 5 (some .boolean)) (rmN 4) (va_Pc [.ref (d 0), .int x, .int key, .int v] (pz D [(cI, .int), (cZ, .boolean)] (fun H => MdAt D cI cZ d S th H))) (Wq (some (.int (bI (sp_removePair S x key v).2.1))) (fun H => MdAt D cI cZ d (sp_removePair S x key v).2.2 (nI (sp_removePair S x key v).1) H) (Ao d 9)) 0 0 (Ao d 9) := by
  have hbd2 : S.2.1 ≤ 40 := hI.2.2.2.1
  have hCC : ∀ cu, cu < 3 → ∀ y, S.2.2.1 cu = some y → y.1 < 4 := fun cu hcu y hy => by have h := hI.2.2.2.2.1 cu hcu; rw [hy] at h; exact h.1
  rcases bkn_cases 4 (by decide) x with ⟨b, hb4, rfl, hbk⟩ | ⟨hbk, hno⟩
  · have hN := hI.1 b hb4
    by_cases h3 : b = 3
    · subst h3
      have e9 : sp_removePair S (nI (3)) key v = (2, false, S) := by simp [sp_removePair, hbk]
      rw [e9]
      refine m_start (by decide) (Nat.le_of_ble_eq_true rfl) ?_
      intro p e s m below meth c hx hb hr hG hown hlocks hml hB ls hl
      have hl : lv_has ls 5 [(0, .ref (d 0)), (1, .int (nI (3))), (2, .int (key)), (3, .int (v))] := hl
      obtain ⟨hB0, hK⟩ := hB
      have hS : va_S (Ao d 9) s.heap s.heap [] := va_S.rf
      refine lv_iload_n hx hb dX5_removePair_0 rfl (lv_at hl 1 rfl) ?_
      refine k1_S hx hb hml hown hG cs_X5_68 (by have h := c5_isBook l D (nI (3)); rw [rch_in (by omega) (by decide)] at h; exact h) (by decide) (pzS (hK.sub (tys' := []) [] rfl) trivial) rfl hl.1 rfl (Nat.le_of_ble_eq_true rfl) dX5_removePair_1 ⟨Nat.zero_le _, Nat.zero_le _⟩ rfl ?_
      refine x_ifb_ne (tgt := 13) hx hb dX5_removePair_4 (by decide) (fun zc1 => ?_) (fun zc1 => False.elim (by first | exact absurd zc1 (by decide) | omega | (simp_all; done)))
      refine lv_iload_n hx hb dX5_removePair_13 rfl (lv_at hl 1 rfl) ?_
      refine lv_iconst (v := nI 3) hx hb dX5_removePair_14 (by decide) ?_
      refine x_cmp_ne (tgt := 24) hx hb dX5_removePair_15 (by decide) (by omega) (by omega) (fun zc2 => False.elim (by first | exact absurd zc2 (by decide) | omega | (simp_all; done))) (fun zc2 => ?_)
      refine lv_aload_n hx hb dX5_removePair_18 rfl (lv_at hl 0 rfl) ?_
      refine lv_iconst (v := nI 2) hx hb dX5_removePair_19 (by decide) ?_
      refine k2_V hx hb hml hown hG cs_X5_72 (c5_denies l D cI cZ d S th 2 hap) (by decide) (pzV hK rfl hB0.rc hB0) rfl hl.1 rfl (Nat.le_of_ble_eq_true rfl) dX5_removePair_20 ⟨Nat.zero_le _, Nat.zero_le _⟩ rfl hS (fun q h => h) (fun H locs hB0 hz hk hS => ?_)
      exact w_z (PB := (fun H => MdAt D cI cZ d S (nI 2) H)) rfl hB0 hS hx hb hr hlocks dX5_removePair_23
    · skip
      cases hf : fx (S.1 b) key with
      | none =>
        have e9 : sp_removePair S (nI (b)) key v = (0, false, clB S b (-1)) := by simp [sp_removePair, hbk, h3, hf]
        rw [e9]
        refine m_start (by decide) (Nat.le_of_ble_eq_true rfl) ?_
        intro p e s m below meth c hx hb hr hG hown hlocks hml hB ls hl
        have hl : lv_has ls 5 [(0, .ref (d 0)), (1, .int (nI (b))), (2, .int (key)), (3, .int (v))] := hl
        obtain ⟨hB0, hK⟩ := hB
        have hS : va_S (Ao d 9) s.heap s.heap [] := va_S.rf
        refine lv_iload_n hx hb dX5_removePair_0 rfl (lv_at hl 1 rfl) ?_
        refine k1_S hx hb hml hown hG cs_X5_68 (by have h := c5_isBook l D (nI (b)); rw [rch_in (by omega) (by decide)] at h; exact h) (by decide) (pzS (hK.sub (tys' := []) [] rfl) trivial) rfl hl.1 rfl (Nat.le_of_ble_eq_true rfl) dX5_removePair_1 ⟨Nat.zero_le _, Nat.zero_le _⟩ rfl ?_
        refine x_ifb_ne (tgt := 13) hx hb dX5_removePair_4 (by decide) (fun zc1 => ?_) (fun zc1 => False.elim (by first | exact absurd zc1 (by decide) | omega | (simp_all; done)))
        refine lv_iload_n hx hb dX5_removePair_13 rfl (lv_at hl 1 rfl) ?_
        refine lv_iconst (v := nI 3) hx hb dX5_removePair_14 (by decide) ?_
        refine x_cmp_ne (tgt := 24) hx hb dX5_removePair_15 (by decide) (by omega) (by omega) (fun zc2 => ?_) (fun zc2 => False.elim (by first | omega | contradiction | exact absurd zc2 (m1_ne _ (by omega)) | exact absurd zc2 (by decide) | exact absurd (Eq.symm zc2) (m1_ne _ (by omega)) | (simp_all; done)))
        refine lv_aload_n hx hb dX5_removePair_24 rfl (lv_at hl 0 rfl) ?_
        refine lv_iload_n hx hb dX5_removePair_25 rfl (lv_at hl 1 rfl) ?_
        refine lv_iconst (v := (-1)) hx hb dX5_removePair_26 (by decide) ?_
        refine k2_V hx hb hml hown hG cs_X5_62 (c5_closes l D cI cZ d S th b (-1) (by omega) hCC hap) (by decide) (pzV hK rfl hB0.rc hB0) rfl hl.1 rfl (Nat.le_of_ble_eq_true rfl) dX5_removePair_27 ⟨Nat.zero_le _, Nat.zero_le _⟩ rfl hS (fun q h => h) (fun H locs hB0 hz hk hS => ?_)
        refine lv_aload_n hx hb dX5_removePair_30 rfl (lv_at hl 0 rfl) ?_
        refine lv_iload_n hx hb dX5_removePair_31 rfl (lv_at hl 1 rfl) ?_
        refine lv_iload_n hx hb dX5_removePair_32 rfl (lv_at hl 2 rfl) ?_
        refine k1_V hx hb hml hown hG cs_X5_50 (by have h := c5_place l D cI cZ d (clB S b (-1)) th b key (by omega); rw [show fx ((clB S b (-1)).1 b) key = none from hf] at h; exact h) (by decide) (pzV hK rfl hB0.rc hB0) rfl hl.1 rfl (Nat.le_of_ble_eq_true rfl) dX5_removePair_33 ⟨Nat.zero_le _, Nat.zero_le _⟩ rfl ?_
        refine lv_istore (lv' := [(4, .int ((-1))), (0, .ref (d 0)), (1, .int (nI (b))), (2, .int (key)), (3, .int (v))]) hx hb dX5_removePair_36 hl (by decide) rfl (fun ls hl => ?_)
        refine lv_iload hx hb dX5_removePair_38 (lv_at hl 0 rfl) ?_
        refine lv_iconst (v := (-1)) hx hb dX5_removePair_40 (by decide) ?_
        refine lv_icmp_eq (tgt := 61) hx hb dX5_removePair_41 (by decide) (fun zc3 => ?_) (fun zc3 => False.elim (by first | exact absurd zc3 (by decide) | omega | (simp_all; done)))
        refine lv_aload_n hx hb dX5_removePair_61 rfl (lv_at hl 1 rfl) ?_
        refine lv_iconst (v := nI 0) hx hb dX5_removePair_62 (by decide) ?_
        refine k2_V hx hb hml hown hG cs_X5_82 (c5_says l D cI cZ d (clB S b (-1)) th false hap) (by decide) (pzV hK rfl hB0.rc hB0) rfl hl.1 rfl (Nat.le_of_ble_eq_true rfl) dX5_removePair_63 ⟨Nat.zero_le _, Nat.zero_le _⟩ rfl hS (fun q h => h) (fun H locs hB0 hz hk hS => ?_)
        exact w_z (PB := (fun H => MdAt D cI cZ d (clB S b (-1)) (nI 0) H)) rfl hB0 hS hx hb hr hlocks dX5_removePair_66
      | some i =>
        have hi := (fx_some hf).1
        by_cases hv0 : vf (S.1 b) i = v
        · skip
          have e9 : sp_removePair S (nI (b)) key v = (0, true, clB (upB S b ((S.1 b).eraseIdx i)) b (-1)) := by simp [sp_removePair, hbk, h3, hf, hv0]
          rw [e9]
          refine m_start (by decide) (Nat.le_of_ble_eq_true rfl) ?_
          intro p e s m below meth c hx hb hr hG hown hlocks hml hB ls hl
          have hl : lv_has ls 5 [(0, .ref (d 0)), (1, .int (nI (b))), (2, .int (key)), (3, .int (v))] := hl
          obtain ⟨hB0, hK⟩ := hB
          have hS : va_S (Ao d 9) s.heap s.heap [] := va_S.rf
          refine lv_iload_n hx hb dX5_removePair_0 rfl (lv_at hl 1 rfl) ?_
          refine k1_S hx hb hml hown hG cs_X5_68 (by have h := c5_isBook l D (nI (b)); rw [rch_in (by omega) (by decide)] at h; exact h) (by decide) (pzS (hK.sub (tys' := []) [] rfl) trivial) rfl hl.1 rfl (Nat.le_of_ble_eq_true rfl) dX5_removePair_1 ⟨Nat.zero_le _, Nat.zero_le _⟩ rfl ?_
          refine x_ifb_ne (tgt := 13) hx hb dX5_removePair_4 (by decide) (fun zc1 => ?_) (fun zc1 => False.elim (by first | exact absurd zc1 (by decide) | omega | (simp_all; done)))
          refine lv_iload_n hx hb dX5_removePair_13 rfl (lv_at hl 1 rfl) ?_
          refine lv_iconst (v := nI 3) hx hb dX5_removePair_14 (by decide) ?_
          refine x_cmp_ne (tgt := 24) hx hb dX5_removePair_15 (by decide) (by omega) (by omega) (fun zc2 => ?_) (fun zc2 => False.elim (by first | omega | contradiction | exact absurd zc2 (m1_ne _ (by omega)) | exact absurd zc2 (by decide) | exact absurd (Eq.symm zc2) (m1_ne _ (by omega)) | (simp_all; done)))
          refine lv_aload_n hx hb dX5_removePair_24 rfl (lv_at hl 0 rfl) ?_
          refine lv_iload_n hx hb dX5_removePair_25 rfl (lv_at hl 1 rfl) ?_
          refine lv_iconst (v := (-1)) hx hb dX5_removePair_26 (by decide) ?_
          refine k2_V hx hb hml hown hG cs_X5_62 (c5_closes l D cI cZ d S th b (-1) (by omega) hCC hap) (by decide) (pzV hK rfl hB0.rc hB0) rfl hl.1 rfl (Nat.le_of_ble_eq_true rfl) dX5_removePair_27 ⟨Nat.zero_le _, Nat.zero_le _⟩ rfl hS (fun q h => h) (fun H locs hB0 hz hk hS => ?_)
          refine lv_aload_n hx hb dX5_removePair_30 rfl (lv_at hl 0 rfl) ?_
          refine lv_iload_n hx hb dX5_removePair_31 rfl (lv_at hl 1 rfl) ?_
          refine lv_iload_n hx hb dX5_removePair_32 rfl (lv_at hl 2 rfl) ?_
          refine k1_V hx hb hml hown hG cs_X5_50 (by have h := c5_place l D cI cZ d (clB S b (-1)) th b key (by omega); rw [show fx ((clB S b (-1)).1 b) key = some i from hf] at h; exact h) (by decide) (pzV hK rfl hB0.rc hB0) rfl hl.1 rfl (Nat.le_of_ble_eq_true rfl) dX5_removePair_33 ⟨Nat.zero_le _, Nat.zero_le _⟩ rfl ?_
          refine lv_istore (lv' := [(4, .int (nI (i))), (0, .ref (d 0)), (1, .int (nI (b))), (2, .int (key)), (3, .int (v))]) hx hb dX5_removePair_36 hl (by decide) rfl (fun ls hl => ?_)
          refine lv_iload hx hb dX5_removePair_38 (lv_at hl 0 rfl) ?_
          refine lv_iconst (v := (-1)) hx hb dX5_removePair_40 (by decide) ?_
          refine lv_icmp_eq (tgt := 61) hx hb dX5_removePair_41 (by decide) (fun zc3 => False.elim (by first | omega | contradiction | exact absurd zc3 (m1_ne _ (by omega)) | exact absurd zc3 (by decide) | exact absurd (Eq.symm zc3) (m1_ne _ (by omega)) | (simp_all; done))) (fun zc3 => ?_)
          refine lv_aload_n hx hb dX5_removePair_44 rfl (lv_at hl 1 rfl) ?_
          obtain ⟨K, V, sz, cb, ck, ca, it, ou, hP, hMB, hMC, hMO⟩ := id hB0
          have hMB : MdB S.1 K V sz := hMB
          have hP : va_P D vwCl [(d 0, .inr (5, [.ref (d 1), .ref (d 2), .ref (d 3), .int (nI (S.2.1)), .int (th), .ref (d 4), .ref (d 5), .ref (d 6), .ref (d 7), .ref (d 8), .int (nI (S.2.2.2.length))])), (d 1, .inl (cI, (804, .inl K))), (d 2, .inl (cI, (804, .inl V))), (d 3, .inl (cI, (4, .inl sz))), (d 4, .inl (cI, (3, .inl cb))), (d 5, .inl (cI, (3, .inl ck))), (d 6, .inl (cI, (3, .inl ca))), (d 7, .inl (cZ, (3, .inl it))), (d 8, .inl (cI, (6000, .inl ou)))] H := hP
          have hD : va_D (Ao d 9) [(d 0, .inr (5, [.ref (d 1), .ref (d 2), .ref (d 3), .int (nI (S.2.1)), .int (th), .ref (d 4), .ref (d 5), .ref (d 6), .ref (d 7), .ref (d 8), .int (nI (S.2.2.2.length))])), (d 1, .inl (cI, (804, .inl K))), (d 2, .inl (cI, (804, .inl V))), (d 3, .inl (cI, (4, .inl sz))), (d 4, .inl (cI, (3, .inl cb))), (d 5, .inl (cI, (3, .inl ck))), (d 6, .inl (cI, (3, .inl ca))), (d 7, .inl (cZ, (3, .inl it))), (d 8, .inl (cI, (6000, .inl ou)))] := hap.D9
          refine gf_X5_13 hx hb hG hown hK hP 0 rfl rfl dX5_removePair_45 ?_
          refine lv_sipush (v := nI 201) hx hb dX5_removePair_48 (by decide) ?_
          refine lv_iload_n hx hb dX5_removePair_51 rfl (lv_at hl 2 rfl) ?_
          refine x_imul (v := nI (201 * b)) hx hb dX5_removePair_52 (pk_mul _ _) ?_
          refine lv_iload hx hb dX5_removePair_53 (lv_at hl 0 rfl) ?_
          refine x_iadd (v := nI ((201 * b) + i)) hx hb dX5_removePair_55 (nI_add _ _) ?_
          refine x_iald hx hb hK hP 2 0 rfl rfl (by omega) (by decide) dX5_removePair_56 ?_
          rw [show V ((201 * b) + i) = vf (S.1 b) i from ((hMB b (by omega)).2.2 i (by omega)).2]
          refine lv_iload_n hx hb dX5_removePair_57 rfl (lv_at hl 4 rfl) ?_
          refine lv_icmp_eq (tgt := 67) hx hb dX5_removePair_58 (by decide) (fun zc4 => ?_) (fun zc4 => False.elim (by first | omega | contradiction | exact absurd zc4 (m1_ne _ (by omega)) | exact absurd zc4 (by decide) | exact absurd (Eq.symm zc4) (m1_ne _ (by omega)) | (simp_all; done)))
          refine lv_aload_n hx hb dX5_removePair_67 rfl (lv_at hl 1 rfl) ?_
          refine lv_iload_n hx hb dX5_removePair_68 rfl (lv_at hl 2 rfl) ?_
          refine lv_iload hx hb dX5_removePair_69 (lv_at hl 0 rfl) ?_
          refine k2_V hx hb hml hown hG cs_X5_46 (c5_takes l D cI cZ d (clB S b (-1)) th b i (by omega) (hi) hap) (by decide) (pzV hK rfl hB0.rc hB0) rfl hl.1 rfl (Nat.le_of_ble_eq_true rfl) dX5_removePair_71 ⟨Nat.zero_le _, Nat.zero_le _⟩ rfl hS (fun q h => h) (fun H locs hB0 hz hk hS => ?_)
          refine lv_aload_n hx hb dX5_removePair_74 rfl (lv_at hl 1 rfl) ?_
          refine lv_iconst (v := nI 1) hx hb dX5_removePair_75 (by decide) ?_
          refine k2_V hx hb hml hown hG cs_X5_82 (c5_says l D cI cZ d (upB (clB S b (-1)) b (((clB S b (-1)).1 b).eraseIdx i)) th true hap) (by decide) (pzV hK rfl hB0.rc hB0) rfl hl.1 rfl (Nat.le_of_ble_eq_true rfl) dX5_removePair_76 ⟨Nat.zero_le _, Nat.zero_le _⟩ rfl hS (fun q h => h) (fun H locs hB0 hz hk hS => ?_)
          exact w_z (PB := (fun H => MdAt D cI cZ d (clB (upB S b ((S.1 b).eraseIdx i)) b (-1)) (nI 0) H)) rfl hB0 hS hx hb hr hlocks dX5_removePair_79
        · skip
          have e9 : sp_removePair S (nI (b)) key v = (0, false, clB S b (-1)) := by simp [sp_removePair, hbk, h3, hf, hv0]
          rw [e9]
          refine m_start (by decide) (Nat.le_of_ble_eq_true rfl) ?_
          intro p e s m below meth c hx hb hr hG hown hlocks hml hB ls hl
          have hl : lv_has ls 5 [(0, .ref (d 0)), (1, .int (nI (b))), (2, .int (key)), (3, .int (v))] := hl
          obtain ⟨hB0, hK⟩ := hB
          have hS : va_S (Ao d 9) s.heap s.heap [] := va_S.rf
          refine lv_iload_n hx hb dX5_removePair_0 rfl (lv_at hl 1 rfl) ?_
          refine k1_S hx hb hml hown hG cs_X5_68 (by have h := c5_isBook l D (nI (b)); rw [rch_in (by omega) (by decide)] at h; exact h) (by decide) (pzS (hK.sub (tys' := []) [] rfl) trivial) rfl hl.1 rfl (Nat.le_of_ble_eq_true rfl) dX5_removePair_1 ⟨Nat.zero_le _, Nat.zero_le _⟩ rfl ?_
          refine x_ifb_ne (tgt := 13) hx hb dX5_removePair_4 (by decide) (fun zc1 => ?_) (fun zc1 => False.elim (by first | exact absurd zc1 (by decide) | omega | (simp_all; done)))
          refine lv_iload_n hx hb dX5_removePair_13 rfl (lv_at hl 1 rfl) ?_
          refine lv_iconst (v := nI 3) hx hb dX5_removePair_14 (by decide) ?_
          refine x_cmp_ne (tgt := 24) hx hb dX5_removePair_15 (by decide) (by omega) (by omega) (fun zc2 => ?_) (fun zc2 => False.elim (by first | omega | contradiction | exact absurd zc2 (m1_ne _ (by omega)) | exact absurd zc2 (by decide) | exact absurd (Eq.symm zc2) (m1_ne _ (by omega)) | (simp_all; done)))
          refine lv_aload_n hx hb dX5_removePair_24 rfl (lv_at hl 0 rfl) ?_
          refine lv_iload_n hx hb dX5_removePair_25 rfl (lv_at hl 1 rfl) ?_
          refine lv_iconst (v := (-1)) hx hb dX5_removePair_26 (by decide) ?_
          refine k2_V hx hb hml hown hG cs_X5_62 (c5_closes l D cI cZ d S th b (-1) (by omega) hCC hap) (by decide) (pzV hK rfl hB0.rc hB0) rfl hl.1 rfl (Nat.le_of_ble_eq_true rfl) dX5_removePair_27 ⟨Nat.zero_le _, Nat.zero_le _⟩ rfl hS (fun q h => h) (fun H locs hB0 hz hk hS => ?_)
          refine lv_aload_n hx hb dX5_removePair_30 rfl (lv_at hl 0 rfl) ?_
          refine lv_iload_n hx hb dX5_removePair_31 rfl (lv_at hl 1 rfl) ?_
          refine lv_iload_n hx hb dX5_removePair_32 rfl (lv_at hl 2 rfl) ?_
          refine k1_V hx hb hml hown hG cs_X5_50 (by have h := c5_place l D cI cZ d (clB S b (-1)) th b key (by omega); rw [show fx ((clB S b (-1)).1 b) key = some i from hf] at h; exact h) (by decide) (pzV hK rfl hB0.rc hB0) rfl hl.1 rfl (Nat.le_of_ble_eq_true rfl) dX5_removePair_33 ⟨Nat.zero_le _, Nat.zero_le _⟩ rfl ?_
          refine lv_istore (lv' := [(4, .int (nI (i))), (0, .ref (d 0)), (1, .int (nI (b))), (2, .int (key)), (3, .int (v))]) hx hb dX5_removePair_36 hl (by decide) rfl (fun ls hl => ?_)
          refine lv_iload hx hb dX5_removePair_38 (lv_at hl 0 rfl) ?_
          refine lv_iconst (v := (-1)) hx hb dX5_removePair_40 (by decide) ?_
          refine lv_icmp_eq (tgt := 61) hx hb dX5_removePair_41 (by decide) (fun zc3 => False.elim (by first | omega | contradiction | exact absurd zc3 (m1_ne _ (by omega)) | exact absurd zc3 (by decide) | exact absurd (Eq.symm zc3) (m1_ne _ (by omega)) | (simp_all; done))) (fun zc3 => ?_)
          refine lv_aload_n hx hb dX5_removePair_44 rfl (lv_at hl 1 rfl) ?_
          obtain ⟨K, V, sz, cb, ck, ca, it, ou, hP, hMB, hMC, hMO⟩ := id hB0
          have hMB : MdB S.1 K V sz := hMB
          have hP : va_P D vwCl [(d 0, .inr (5, [.ref (d 1), .ref (d 2), .ref (d 3), .int (nI (S.2.1)), .int (th), .ref (d 4), .ref (d 5), .ref (d 6), .ref (d 7), .ref (d 8), .int (nI (S.2.2.2.length))])), (d 1, .inl (cI, (804, .inl K))), (d 2, .inl (cI, (804, .inl V))), (d 3, .inl (cI, (4, .inl sz))), (d 4, .inl (cI, (3, .inl cb))), (d 5, .inl (cI, (3, .inl ck))), (d 6, .inl (cI, (3, .inl ca))), (d 7, .inl (cZ, (3, .inl it))), (d 8, .inl (cI, (6000, .inl ou)))] H := hP
          have hD : va_D (Ao d 9) [(d 0, .inr (5, [.ref (d 1), .ref (d 2), .ref (d 3), .int (nI (S.2.1)), .int (th), .ref (d 4), .ref (d 5), .ref (d 6), .ref (d 7), .ref (d 8), .int (nI (S.2.2.2.length))])), (d 1, .inl (cI, (804, .inl K))), (d 2, .inl (cI, (804, .inl V))), (d 3, .inl (cI, (4, .inl sz))), (d 4, .inl (cI, (3, .inl cb))), (d 5, .inl (cI, (3, .inl ck))), (d 6, .inl (cI, (3, .inl ca))), (d 7, .inl (cZ, (3, .inl it))), (d 8, .inl (cI, (6000, .inl ou)))] := hap.D9
          refine gf_X5_13 hx hb hG hown hK hP 0 rfl rfl dX5_removePair_45 ?_
          refine lv_sipush (v := nI 201) hx hb dX5_removePair_48 (by decide) ?_
          refine lv_iload_n hx hb dX5_removePair_51 rfl (lv_at hl 2 rfl) ?_
          refine x_imul (v := nI (201 * b)) hx hb dX5_removePair_52 (pk_mul _ _) ?_
          refine lv_iload hx hb dX5_removePair_53 (lv_at hl 0 rfl) ?_
          refine x_iadd (v := nI ((201 * b) + i)) hx hb dX5_removePair_55 (nI_add _ _) ?_
          refine x_iald hx hb hK hP 2 0 rfl rfl (by omega) (by decide) dX5_removePair_56 ?_
          rw [show V ((201 * b) + i) = vf (S.1 b) i from ((hMB b (by omega)).2.2 i (by omega)).2]
          refine lv_iload_n hx hb dX5_removePair_57 rfl (lv_at hl 4 rfl) ?_
          refine lv_icmp_eq (tgt := 67) hx hb dX5_removePair_58 (by decide) (fun zc4 => False.elim (by first | omega | contradiction | exact absurd zc4 (m1_ne _ (by omega)) | exact absurd zc4 (by decide) | exact absurd (Eq.symm zc4) (m1_ne _ (by omega)) | (simp_all; done))) (fun zc4 => ?_)
          refine lv_aload_n hx hb dX5_removePair_61 rfl (lv_at hl 1 rfl) ?_
          refine lv_iconst (v := nI 0) hx hb dX5_removePair_62 (by decide) ?_
          refine k2_V hx hb hml hown hG cs_X5_82 (c5_says l D cI cZ d (clB S b (-1)) th false hap) (by decide) (pzV hK rfl hB0.rc hB0) rfl hl.1 rfl (Nat.le_of_ble_eq_true rfl) dX5_removePair_63 ⟨Nat.zero_le _, Nat.zero_le _⟩ rfl hS (fun q h => h) (fun H locs hB0 hz hk hS => ?_)
          exact w_z (PB := (fun H => MdAt D cI cZ d (clB S b (-1)) (nI 0) H)) rfl hB0 hS hx hb hr hlocks dX5_removePair_66
  · skip
    have e9 : sp_removePair S x key v = (1, false, S) := by simp [sp_removePair, hbk]
    rw [e9]
    refine m_start (by decide) (Nat.le_of_ble_eq_true rfl) ?_
    intro p e s m below meth c hx hb hr hG hown hlocks hml hB ls hl
    have hl : lv_has ls 5 [(0, .ref (d 0)), (1, .int (x)), (2, .int (key)), (3, .int (v))] := hl
    obtain ⟨hB0, hK⟩ := hB
    have hS : va_S (Ao d 9) s.heap s.heap [] := va_S.rf
    refine lv_iload_n hx hb dX5_removePair_0 rfl (lv_at hl 1 rfl) ?_
    refine k1_S hx hb hml hown hG cs_X5_68 (by have h := c5_isBook l D x; rw [hno] at h; exact h) (by decide) (pzS (hK.sub (tys' := []) [] rfl) trivial) rfl hl.1 rfl (Nat.le_of_ble_eq_true rfl) dX5_removePair_1 ⟨Nat.zero_le _, Nat.zero_le _⟩ rfl ?_
    refine x_ifb_ne (tgt := 13) hx hb dX5_removePair_4 (by decide) (fun zc1 => False.elim (by first | exact absurd zc1 (by decide) | omega | (simp_all; done))) (fun zc1 => ?_)
    refine lv_aload_n hx hb dX5_removePair_7 rfl (lv_at hl 0 rfl) ?_
    refine lv_iconst (v := nI 1) hx hb dX5_removePair_8 (by decide) ?_
    refine k2_V hx hb hml hown hG cs_X5_72 (c5_denies l D cI cZ d S th 1 hap) (by decide) (pzV hK rfl hB0.rc hB0) rfl hl.1 rfl (Nat.le_of_ble_eq_true rfl) dX5_removePair_9 ⟨Nat.zero_le _, Nat.zero_le _⟩ rfl hS (fun q h => h) (fun H locs hB0 hz hk hS => ?_)
    exact w_z (PB := (fun H => MdAt D cI cZ d S (nI 1) H)) rfl hB0 hS hx hb hr hlocks dX5_removePair_12
theorem MdB.none {B : Nat → Bk} {K V sz : Nat → Int32} (h : MdB B K V sz) {b : Nat} : MdB (va_up B b []) K V (upd sz b (nI 0)) := h.put [] (Nat.zero_le _) (by rw [upd_at, if_pos rfl]; rfl) (fun o ho => by rw [upd_at, if_neg ho]) (fun j hj => absurd hj (Nat.not_lt_zero j)) (fun _ _ => ⟨rfl, rfl⟩)
set_option maxHeartbeats 4000000 in
set_option maxRecDepth 100000 in
theorem m_clear (l : Launch) (D : va_G) (cI cZ : ClassId) (d : Nat → Nat) (S : St) (th : Int32) (x : Int32) (hI : Inv S) (hap : Ap d 9) : Met l yX5_clear (ws_ yX5_clear cX5_clear 3 (some .int)) (rmN 4) (va_Pc [.ref (d 0), .int x] (pz D [(cI, .int), (cZ, .boolean)] (fun H => MdAt D cI cZ d S th H))) (Wq (some (.int (sp_clear S x).2.1)) (fun H => MdAt D cI cZ d (sp_clear S x).2.2 (nI (sp_clear S x).1) H) (Ao d 9)) 0 0 (Ao d 9) := by
  have hbd2 : S.2.1 ≤ 40 := hI.2.2.2.1
  have hCC : ∀ cu, cu < 3 → ∀ y, S.2.2.1 cu = some y → y.1 < 4 := fun cu hcu y hy => by have h := hI.2.2.2.2.1 cu hcu; rw [hy] at h; exact h.1
  rcases bkn_cases 4 (by decide) x with ⟨b, hb4, rfl, hbk⟩ | ⟨hbk, hno⟩
  · have hN := hI.1 b hb4
    by_cases h3 : b = 3
    · subst h3
      have e9 : sp_clear S (nI (3)) = (2, 0, S) := by simp [sp_clear, hbk]
      rw [e9]
      refine m_start (by decide) (Nat.le_of_ble_eq_true rfl) ?_
      intro p e s m below meth c hx hb hr hG hown hlocks hml hB ls hl
      have hl : lv_has ls 3 [(0, .ref (d 0)), (1, .int (nI (3)))] := hl
      obtain ⟨hB0, hK⟩ := hB
      have hS : va_S (Ao d 9) s.heap s.heap [] := va_S.rf
      refine lv_iload_n hx hb dX5_clear_0 rfl (lv_at hl 1 rfl) ?_
      refine k1_S hx hb hml hown hG cs_X5_68 (by have h := c5_isBook l D (nI (3)); rw [rch_in (by omega) (by decide)] at h; exact h) (by decide) (pzS (hK.sub (tys' := []) [] rfl) trivial) rfl hl.1 rfl (Nat.le_of_ble_eq_true rfl) dX5_clear_1 ⟨Nat.zero_le _, Nat.zero_le _⟩ rfl ?_
      refine x_ifb_ne (tgt := 13) hx hb dX5_clear_4 (by decide) (fun zc1 => ?_) (fun zc1 => False.elim (by first | exact absurd zc1 (by decide) | omega | (simp_all; done)))
      refine lv_iload_n hx hb dX5_clear_13 rfl (lv_at hl 1 rfl) ?_
      refine lv_iconst (v := nI 3) hx hb dX5_clear_14 (by decide) ?_
      refine x_cmp_ne (tgt := 24) hx hb dX5_clear_15 (by decide) (by omega) (by omega) (fun zc2 => False.elim (by first | exact absurd zc2 (by decide) | omega | (simp_all; done))) (fun zc2 => ?_)
      refine lv_aload_n hx hb dX5_clear_18 rfl (lv_at hl 0 rfl) ?_
      refine lv_iconst (v := nI 2) hx hb dX5_clear_19 (by decide) ?_
      refine k2_V hx hb hml hown hG cs_X5_58 (c5_refuse l D cI cZ d S th 2 hap) (by decide) (pzV hK rfl hB0.rc hB0) rfl hl.1 rfl (Nat.le_of_ble_eq_true rfl) dX5_clear_20 ⟨Nat.zero_le _, Nat.zero_le _⟩ rfl hS (fun q h => h) (fun H locs hB0 hz hk hS => ?_)
      exact w_i (PB := (fun H => MdAt D cI cZ d S (nI 2) H)) rfl hB0 hS hx hb hr hlocks dX5_clear_23
    · skip
      have e9 : sp_clear S (nI (b)) = (0, nI (S.1 b).length, clB (upB S b []) b (-1)) := by simp [sp_clear, hbk, h3]
      rw [e9]
      refine m_start (by decide) (Nat.le_of_ble_eq_true rfl) ?_
      intro p e s m below meth c hx hb hr hG hown hlocks hml hB ls hl
      have hl : lv_has ls 3 [(0, .ref (d 0)), (1, .int (nI (b)))] := hl
      obtain ⟨hB0, hK⟩ := hB
      have hS : va_S (Ao d 9) s.heap s.heap [] := va_S.rf
      refine lv_iload_n hx hb dX5_clear_0 rfl (lv_at hl 1 rfl) ?_
      refine k1_S hx hb hml hown hG cs_X5_68 (by have h := c5_isBook l D (nI (b)); rw [rch_in (by omega) (by decide)] at h; exact h) (by decide) (pzS (hK.sub (tys' := []) [] rfl) trivial) rfl hl.1 rfl (Nat.le_of_ble_eq_true rfl) dX5_clear_1 ⟨Nat.zero_le _, Nat.zero_le _⟩ rfl ?_
      refine x_ifb_ne (tgt := 13) hx hb dX5_clear_4 (by decide) (fun zc1 => ?_) (fun zc1 => False.elim (by first | exact absurd zc1 (by decide) | omega | (simp_all; done)))
      refine lv_iload_n hx hb dX5_clear_13 rfl (lv_at hl 1 rfl) ?_
      refine lv_iconst (v := nI 3) hx hb dX5_clear_14 (by decide) ?_
      refine x_cmp_ne (tgt := 24) hx hb dX5_clear_15 (by decide) (by omega) (by omega) (fun zc2 => ?_) (fun zc2 => False.elim (by first | omega | contradiction | exact absurd zc2 (m1_ne _ (by omega)) | exact absurd zc2 (by decide) | exact absurd (Eq.symm zc2) (m1_ne _ (by omega)) | (simp_all; done)))
      refine lv_aload_n hx hb dX5_clear_24 rfl (lv_at hl 0 rfl) ?_
      obtain ⟨K, V, sz, cb, ck, ca, it, ou, hP, hMB, hMC, hMO⟩ := id hB0
      have hP : va_P D vwCl [(d 0, .inr (5, [.ref (d 1), .ref (d 2), .ref (d 3), .int (nI (S.2.1)), .int (th), .ref (d 4), .ref (d 5), .ref (d 6), .ref (d 7), .ref (d 8), .int (nI (S.2.2.2.length))])), (d 1, .inl (cI, (804, .inl K))), (d 2, .inl (cI, (804, .inl V))), (d 3, .inl (cI, (4, .inl sz))), (d 4, .inl (cI, (3, .inl cb))), (d 5, .inl (cI, (3, .inl ck))), (d 6, .inl (cI, (3, .inl ca))), (d 7, .inl (cZ, (3, .inl it))), (d 8, .inl (cI, (6000, .inl ou)))] s.heap := hP
      have hD : va_D (Ao d 9) [(d 0, .inr (5, [.ref (d 1), .ref (d 2), .ref (d 3), .int (nI (S.2.1)), .int (th), .ref (d 4), .ref (d 5), .ref (d 6), .ref (d 7), .ref (d 8), .int (nI (S.2.2.2.length))])), (d 1, .inl (cI, (804, .inl K))), (d 2, .inl (cI, (804, .inl V))), (d 3, .inl (cI, (4, .inl sz))), (d 4, .inl (cI, (3, .inl cb))), (d 5, .inl (cI, (3, .inl ck))), (d 6, .inl (cI, (3, .inl ca))), (d 7, .inl (cZ, (3, .inl it))), (d 8, .inl (cI, (6000, .inl ou)))] := hap.D9
      refine gf_X5_16 hx hb hG hown hK hP 0 rfl rfl dX5_clear_25 ?_
      refine lv_iload_n hx hb dX5_clear_28 rfl (lv_at hl 1 rfl) ?_
      refine x_iald hx hb hK hP 3 0 rfl rfl (by omega) (by decide) dX5_clear_29 ?_
      rw [(hMB (b) (by omega)).1]
      refine lv_istore_n (lv' := [(2, .int (nI ((S.1 b).length))), (0, .ref (d 0)), (1, .int (nI (b)))]) hx hb dX5_clear_30 rfl hl (by decide) rfl (fun ls hl => ?_)
      refine lv_aload_n hx hb dX5_clear_31 rfl (lv_at hl 1 rfl) ?_
      refine gf_X5_16 hx hb hG hown hK hP 0 rfl rfl dX5_clear_32 ?_
      refine lv_iload_n hx hb dX5_clear_35 rfl (lv_at hl 2 rfl) ?_
      refine lv_iconst (v := nI 0) hx hb dX5_clear_36 (by decide) ?_
      refine x_iast hx hb hK hP hD hS 3 0 rfl rfl (by omega) (by decide) dX5_clear_37 (fun H locs hP hD hS => ?_)
      have hP : va_P D vwCl [(d 0, .inr (5, [.ref (d 1), .ref (d 2), .ref (d 3), .int (nI (S.2.1)), .int (th), .ref (d 4), .ref (d 5), .ref (d 6), .ref (d 7), .ref (d 8), .int (nI (S.2.2.2.length))])), (d 1, .inl (cI, (804, .inl K))), (d 2, .inl (cI, (804, .inl V))), (d 3, .inl (cI, (4, .inl (upd sz (b) (nI (0)))))), (d 4, .inl (cI, (3, .inl cb))), (d 5, .inl (cI, (3, .inl ck))), (d 6, .inl (cI, (3, .inl ca))), (d 7, .inl (cZ, (3, .inl it))), (d 8, .inl (cI, (6000, .inl ou)))] H := hP
      have hD : va_D (Ao d 9) [(d 0, .inr (5, [.ref (d 1), .ref (d 2), .ref (d 3), .int (nI (S.2.1)), .int (th), .ref (d 4), .ref (d 5), .ref (d 6), .ref (d 7), .ref (d 8), .int (nI (S.2.2.2.length))])), (d 1, .inl (cI, (804, .inl K))), (d 2, .inl (cI, (804, .inl V))), (d 3, .inl (cI, (4, .inl (upd sz (b) (nI (0)))))), (d 4, .inl (cI, (3, .inl cb))), (d 5, .inl (cI, (3, .inl ck))), (d 6, .inl (cI, (3, .inl ca))), (d 7, .inl (cZ, (3, .inl it))), (d 8, .inl (cI, (6000, .inl ou)))] := hD
      refine lv_aload_n hx hb dX5_clear_38 rfl (lv_at hl 1 rfl) ?_
      refine lv_iload_n hx hb dX5_clear_39 rfl (lv_at hl 2 rfl) ?_
      refine lv_iconst (v := (-1)) hx hb dX5_clear_40 (by decide) ?_
      have hB0 : MdAt D cI cZ d (upB S b []) th H := ⟨K, V, _, cb, ck, ca, it, ou, hP, MdB.none hMB (b := b), hMC, hMO⟩
      refine k2_V hx hb hml hown hG cs_X5_62 (c5_closes l D cI cZ d (upB S b []) th b (-1) (by omega) hCC hap) (by decide) (pzV hK rfl hB0.rc hB0) rfl hl.1 rfl (Nat.le_of_ble_eq_true rfl) dX5_clear_41 ⟨Nat.zero_le _, Nat.zero_le _⟩ rfl hS (fun q h => h) (fun H locs hB0 hz hk hS => ?_)
      refine lv_aload_n hx hb dX5_clear_44 rfl (lv_at hl 1 rfl) ?_
      refine lv_iload_n hx hb dX5_clear_45 rfl (lv_at hl 0 rfl) ?_
      refine k2_V hx hb hml hown hG cs_X5_65 (c5_told l D cI cZ d (clB (upB S b []) b (-1)) th (nI ((S.1 b).length)) hap) (by decide) (pzV hK rfl hB0.rc hB0) rfl hl.1 rfl (Nat.le_of_ble_eq_true rfl) dX5_clear_46 ⟨Nat.zero_le _, Nat.zero_le _⟩ rfl hS (fun q h => h) (fun H locs hB0 hz hk hS => ?_)
      exact w_i (PB := (fun H => MdAt D cI cZ d (clB (upB S b []) b (-1)) (nI 0) H)) rfl hB0 hS hx hb hr hlocks dX5_clear_49
  · skip
    have e9 : sp_clear S x = (1, 0, S) := by simp [sp_clear, hbk]
    rw [e9]
    refine m_start (by decide) (Nat.le_of_ble_eq_true rfl) ?_
    intro p e s m below meth c hx hb hr hG hown hlocks hml hB ls hl
    have hl : lv_has ls 3 [(0, .ref (d 0)), (1, .int (x))] := hl
    obtain ⟨hB0, hK⟩ := hB
    have hS : va_S (Ao d 9) s.heap s.heap [] := va_S.rf
    refine lv_iload_n hx hb dX5_clear_0 rfl (lv_at hl 1 rfl) ?_
    refine k1_S hx hb hml hown hG cs_X5_68 (by have h := c5_isBook l D x; rw [hno] at h; exact h) (by decide) (pzS (hK.sub (tys' := []) [] rfl) trivial) rfl hl.1 rfl (Nat.le_of_ble_eq_true rfl) dX5_clear_1 ⟨Nat.zero_le _, Nat.zero_le _⟩ rfl ?_
    refine x_ifb_ne (tgt := 13) hx hb dX5_clear_4 (by decide) (fun zc1 => False.elim (by first | exact absurd zc1 (by decide) | omega | (simp_all; done))) (fun zc1 => ?_)
    refine lv_aload_n hx hb dX5_clear_7 rfl (lv_at hl 0 rfl) ?_
    refine lv_iconst (v := nI 1) hx hb dX5_clear_8 (by decide) ?_
    refine k2_V hx hb hml hown hG cs_X5_58 (c5_refuse l D cI cZ d S th 1 hap) (by decide) (pzV hK rfl hB0.rc hB0) rfl hl.1 rfl (Nat.le_of_ble_eq_true rfl) dX5_clear_9 ⟨Nat.zero_le _, Nat.zero_le _⟩ rfl hS (fun q h => h) (fun H locs hB0 hz hk hS => ?_)
    exact w_i (PB := (fun H => MdAt D cI cZ d S (nI 1) H)) rfl hB0 hS hx hb hr hlocks dX5_clear_12
theorem inb_of {v lo hi : Int32} (h : lo ≤ v) (h2 : v ≤ hi) : inb v lo hi = true := by
  unfold inb
  rw [decide_eq_true h, decide_eq_true h2]; rfl
theorem inb_not {v lo hi : Int32} (h : ¬ (lo ≤ v ∧ v ≤ hi)) : inb v lo hi = false := by
  unfold inb
  by_cases h1 : lo ≤ v
  · rw [decide_eq_true h1, decide_eq_false (fun z => h ⟨h1, z⟩)]; rfl
  · rw [decide_eq_false h1]; rfl
set_option maxHeartbeats 4000000 in
set_option maxRecDepth 100000 in
theorem m_rebind (l : Launch) (D : va_G) (cI cZ : ClassId) (d : Nat → Nat) (S : St) (th : Int32) (x : Int32) (hI : Inv S) (hap : Ap d 9) : Met l yX5_rebind (ws_ yX5_rebind cX5_rebind 3 (some .int)) (rmN 4) (va_Pc [.ref (d 0), .int x] (pz D [(cI, .int), (cZ, .boolean)] (fun H => MdAt D cI cZ d S th H))) (Wq (some (.int (sp_rebind S x).2.1)) (fun H => MdAt D cI cZ d (sp_rebind S x).2.2 (nI (sp_rebind S x).1) H) (Ao d 9)) 0 0 (Ao d 9) := by
  have hbd2 : S.2.1 ≤ 40 := hI.2.2.2.1
  have hCC : ∀ cu, cu < 3 → ∀ y, S.2.2.1 cu = some y → y.1 < 4 := fun cu hcu y hy => by have h := hI.2.2.2.2.1 cu hcu; rw [hy] at h; exact h.1
  by_cases hx0 : 1 ≤ x ∧ x ≤ 40
  · skip
    obtain ⟨n, hn, ex⟩ : ∃ n : Nat, n < 41 ∧ x = nI n := by
      have h1 := hx0.1
      have h2 := hx0.2
      rw [i_le] at h1 h2
      have e1 : (1 : Int32).toInt = 1 := by decide
      have e2 : (40 : Int32).toInt = 40 := by decide
      refine rch_of (by decide) ?_
      unfold rch
      rw [decide_eq_true_eq, i_le, i_lt, nI_toInt (by decide)]
      have e0 : (0 : Int32).toInt = 0 := by decide
      omega
    subst ex
    have e9 : sp_rebind S (nI (n)) = (0, nI (S.1 2).length, (va_up S.1 2 [], n, clo S.2.2.1 2 (-1), S.2.2.2)) := by unfold sp_rebind; rw [if_pos hx0, nI_clamp (by omega)]
    rw [e9]
    refine m_start (by decide) (Nat.le_of_ble_eq_true rfl) ?_
    intro p e s m below meth c hx hb hr hG hown hlocks hml hB ls hl
    have hl : lv_has ls 3 [(0, .ref (d 0)), (1, .int (nI (n)))] := hl
    obtain ⟨hB0, hK⟩ := hB
    have hS : va_S (Ao d 9) s.heap s.heap [] := va_S.rf
    have hin0 : inb (nI n) (nI 1) (nI 40) = true := inb_of hx0.1 hx0.2
    refine lv_iload_n hx hb dX5_rebind_0 rfl (lv_at hl 1 rfl) ?_
    refine lv_iconst (v := nI 1) hx hb dX5_rebind_1 (by decide) ?_
    refine lv_bipush (v := nI 40) hx hb dX5_rebind_2 (by decide) ?_
    refine k1_S hx hb hml hown hG cs_X5_42 (by have h := c5_in l D (nI (n)) (nI (1)) (nI (40)); rw [hin0] at h; exact h) (by decide) (pzS (hK.sub (tys' := []) [] rfl) trivial) rfl hl.1 rfl (Nat.le_of_ble_eq_true rfl) dX5_rebind_4 ⟨Nat.zero_le _, Nat.zero_le _⟩ rfl ?_
    refine x_ifb_ne (tgt := 16) hx hb dX5_rebind_7 (by decide) (fun zc1 => ?_) (fun zc1 => False.elim (by first | exact absurd zc1 (by decide) | omega | (simp_all; done)))
    refine lv_aload_n hx hb dX5_rebind_16 rfl (lv_at hl 0 rfl) ?_
    obtain ⟨K, V, sz, cb, ck, ca, it, ou, hP, hMB, hMC, hMO⟩ := id hB0
    have hP : va_P D vwCl [(d 0, .inr (5, [.ref (d 1), .ref (d 2), .ref (d 3), .int (nI (S.2.1)), .int (th), .ref (d 4), .ref (d 5), .ref (d 6), .ref (d 7), .ref (d 8), .int (nI (S.2.2.2.length))])), (d 1, .inl (cI, (804, .inl K))), (d 2, .inl (cI, (804, .inl V))), (d 3, .inl (cI, (4, .inl sz))), (d 4, .inl (cI, (3, .inl cb))), (d 5, .inl (cI, (3, .inl ck))), (d 6, .inl (cI, (3, .inl ca))), (d 7, .inl (cZ, (3, .inl it))), (d 8, .inl (cI, (6000, .inl ou)))] s.heap := hP
    have hD : va_D (Ao d 9) [(d 0, .inr (5, [.ref (d 1), .ref (d 2), .ref (d 3), .int (nI (S.2.1)), .int (th), .ref (d 4), .ref (d 5), .ref (d 6), .ref (d 7), .ref (d 8), .int (nI (S.2.2.2.length))])), (d 1, .inl (cI, (804, .inl K))), (d 2, .inl (cI, (804, .inl V))), (d 3, .inl (cI, (4, .inl sz))), (d 4, .inl (cI, (3, .inl cb))), (d 5, .inl (cI, (3, .inl ck))), (d 6, .inl (cI, (3, .inl ca))), (d 7, .inl (cZ, (3, .inl it))), (d 8, .inl (cI, (6000, .inl ou)))] := hap.D9
    refine gf_X5_16 hx hb hG hown hK hP 0 rfl rfl dX5_rebind_17 ?_
    refine lv_iconst (v := nI 2) hx hb dX5_rebind_20 (by decide) ?_
    refine x_iald hx hb hK hP 3 0 rfl rfl (by omega) (by decide) dX5_rebind_21 ?_
    rw [(hMB (2) (by omega)).1]
    refine lv_istore_n (lv' := [(2, .int (nI ((S.1 2).length))), (0, .ref (d 0)), (1, .int (nI (n)))]) hx hb dX5_rebind_22 rfl hl (by decide) rfl (fun ls hl => ?_)
    refine lv_aload_n hx hb dX5_rebind_23 rfl (lv_at hl 1 rfl) ?_
    refine gf_X5_16 hx hb hG hown hK hP 0 rfl rfl dX5_rebind_24 ?_
    refine lv_iconst (v := nI 2) hx hb dX5_rebind_27 (by decide) ?_
    refine lv_iconst (v := nI 0) hx hb dX5_rebind_28 (by decide) ?_
    refine x_iast hx hb hK hP hD hS 3 0 rfl rfl (by omega) (by decide) dX5_rebind_29 (fun H locs hP hD hS => ?_)
    have hP : va_P D vwCl [(d 0, .inr (5, [.ref (d 1), .ref (d 2), .ref (d 3), .int (nI (S.2.1)), .int (th), .ref (d 4), .ref (d 5), .ref (d 6), .ref (d 7), .ref (d 8), .int (nI (S.2.2.2.length))])), (d 1, .inl (cI, (804, .inl K))), (d 2, .inl (cI, (804, .inl V))), (d 3, .inl (cI, (4, .inl (upd sz (2) (nI (0)))))), (d 4, .inl (cI, (3, .inl cb))), (d 5, .inl (cI, (3, .inl ck))), (d 6, .inl (cI, (3, .inl ca))), (d 7, .inl (cZ, (3, .inl it))), (d 8, .inl (cI, (6000, .inl ou)))] H := hP
    have hD : va_D (Ao d 9) [(d 0, .inr (5, [.ref (d 1), .ref (d 2), .ref (d 3), .int (nI (S.2.1)), .int (th), .ref (d 4), .ref (d 5), .ref (d 6), .ref (d 7), .ref (d 8), .int (nI (S.2.2.2.length))])), (d 1, .inl (cI, (804, .inl K))), (d 2, .inl (cI, (804, .inl V))), (d 3, .inl (cI, (4, .inl (upd sz (2) (nI (0)))))), (d 4, .inl (cI, (3, .inl cb))), (d 5, .inl (cI, (3, .inl ck))), (d 6, .inl (cI, (3, .inl ca))), (d 7, .inl (cZ, (3, .inl it))), (d 8, .inl (cI, (6000, .inl ou)))] := hD
    refine lv_aload_n hx hb dX5_rebind_30 rfl (lv_at hl 1 rfl) ?_
    refine lv_iload_n hx hb dX5_rebind_31 rfl (lv_at hl 2 rfl) ?_
    refine pf_X5_19 hx hb hG hown hK hP hD hS 0 rfl (v := .int (nI (n))) rfl rfl (Nat.le_of_ble_eq_true rfl) dX5_rebind_32 (fun H locs hP hD hS => ?_)
    have hP : va_P D vwCl [(d 0, .inr (5, [.ref (d 1), .ref (d 2), .ref (d 3), .int (nI (n)), .int (th), .ref (d 4), .ref (d 5), .ref (d 6), .ref (d 7), .ref (d 8), .int (nI (S.2.2.2.length))])), (d 1, .inl (cI, (804, .inl K))), (d 2, .inl (cI, (804, .inl V))), (d 3, .inl (cI, (4, .inl (upd sz (2) (nI (0)))))), (d 4, .inl (cI, (3, .inl cb))), (d 5, .inl (cI, (3, .inl ck))), (d 6, .inl (cI, (3, .inl ca))), (d 7, .inl (cZ, (3, .inl it))), (d 8, .inl (cI, (6000, .inl ou)))] H := hP
    have hD : va_D (Ao d 9) [(d 0, .inr (5, [.ref (d 1), .ref (d 2), .ref (d 3), .int (nI (n)), .int (th), .ref (d 4), .ref (d 5), .ref (d 6), .ref (d 7), .ref (d 8), .int (nI (S.2.2.2.length))])), (d 1, .inl (cI, (804, .inl K))), (d 2, .inl (cI, (804, .inl V))), (d 3, .inl (cI, (4, .inl (upd sz (2) (nI (0)))))), (d 4, .inl (cI, (3, .inl cb))), (d 5, .inl (cI, (3, .inl ck))), (d 6, .inl (cI, (3, .inl ca))), (d 7, .inl (cZ, (3, .inl it))), (d 8, .inl (cI, (6000, .inl ou)))] := hD
    have hbd3 : n < 41 := hn
    refine lv_aload_n hx hb dX5_rebind_35 rfl (lv_at hl 1 rfl) ?_
    refine lv_iconst (v := nI 2) hx hb dX5_rebind_36 (by decide) ?_
    refine lv_iconst (v := (-1)) hx hb dX5_rebind_37 (by decide) ?_
    have hB0 : MdAt D cI cZ d (va_up S.1 2 [], n, S.2.2.1, S.2.2.2) th H := ⟨K, V, _, cb, ck, ca, it, ou, hP, MdB.none hMB (b := 2), hMC, hMO⟩
    refine k2_V hx hb hml hown hG cs_X5_62 (c5_closes l D cI cZ d (va_up S.1 2 [], n, S.2.2.1, S.2.2.2) th 2 (-1) (by omega) hCC hap) (by decide) (pzV hK rfl hB0.rc hB0) rfl hl.1 rfl (Nat.le_of_ble_eq_true rfl) dX5_rebind_38 ⟨Nat.zero_le _, Nat.zero_le _⟩ rfl hS (fun q h => h) (fun H locs hB0 hz hk hS => ?_)
    refine lv_aload_n hx hb dX5_rebind_41 rfl (lv_at hl 1 rfl) ?_
    refine lv_iload_n hx hb dX5_rebind_42 rfl (lv_at hl 0 rfl) ?_
    refine k2_V hx hb hml hown hG cs_X5_65 (c5_told l D cI cZ d (clB (va_up S.1 2 [], n, S.2.2.1, S.2.2.2) 2 (-1)) th (nI ((S.1 2).length)) hap) (by decide) (pzV hK rfl hB0.rc hB0) rfl hl.1 rfl (Nat.le_of_ble_eq_true rfl) dX5_rebind_43 ⟨Nat.zero_le _, Nat.zero_le _⟩ rfl hS (fun q h => h) (fun H locs hB0 hz hk hS => ?_)
    exact w_i (PB := (fun H => MdAt D cI cZ d (va_up S.1 2 [], n, clo S.2.2.1 2 (-1), S.2.2.2) (nI 0) H)) rfl hB0 hS hx hb hr hlocks dX5_rebind_46
  · skip
    have e9 : sp_rebind S x = (1, 0, S) := by unfold sp_rebind; rw [if_neg hx0]
    rw [e9]
    refine m_start (by decide) (Nat.le_of_ble_eq_true rfl) ?_
    intro p e s m below meth c hx hb hr hG hown hlocks hml hB ls hl
    have hl : lv_has ls 3 [(0, .ref (d 0)), (1, .int (x))] := hl
    obtain ⟨hB0, hK⟩ := hB
    have hS : va_S (Ao d 9) s.heap s.heap [] := va_S.rf
    have hin0 : inb x (nI 1) (nI 40) = false := inb_not hx0
    refine lv_iload_n hx hb dX5_rebind_0 rfl (lv_at hl 1 rfl) ?_
    refine lv_iconst (v := nI 1) hx hb dX5_rebind_1 (by decide) ?_
    refine lv_bipush (v := nI 40) hx hb dX5_rebind_2 (by decide) ?_
    refine k1_S hx hb hml hown hG cs_X5_42 (by have h := c5_in l D x (nI (1)) (nI (40)); rw [hin0] at h; exact h) (by decide) (pzS (hK.sub (tys' := []) [] rfl) trivial) rfl hl.1 rfl (Nat.le_of_ble_eq_true rfl) dX5_rebind_4 ⟨Nat.zero_le _, Nat.zero_le _⟩ rfl ?_
    refine x_ifb_ne (tgt := 16) hx hb dX5_rebind_7 (by decide) (fun zc1 => False.elim (by first | exact absurd zc1 (by decide) | omega | (simp_all; done))) (fun zc1 => ?_)
    refine lv_aload_n hx hb dX5_rebind_10 rfl (lv_at hl 0 rfl) ?_
    refine lv_iconst (v := nI 1) hx hb dX5_rebind_11 (by decide) ?_
    refine k2_V hx hb hml hown hG cs_X5_58 (c5_refuse l D cI cZ d S th 1 hap) (by decide) (pzV hK rfl hB0.rc hB0) rfl hl.1 rfl (Nat.le_of_ble_eq_true rfl) dX5_rebind_12 ⟨Nat.zero_le _, Nat.zero_le _⟩ rfl hS (fun q h => h) (fun H locs hB0 hz hk hS => ?_)
    exact w_i (PB := (fun H => MdAt D cI cZ d S (nI 1) H)) rfl hB0 hS hx hb hr hlocks dX5_rebind_15
set_option maxHeartbeats 4000000 in
set_option maxRecDepth 100000 in
theorem m_offer (l : Launch) (D : va_G) (cI cZ : ClassId) (d : Nat → Nat) (S : St) (th : Int32) (x : Int32) (hI : Inv S) (hap : Ap d 9) : Met l yX5_offer (ws_ yX5_offer cX5_offer 3 (some .boolean)) (rmN 4) (va_Pc [.ref (d 0), .int x] (pz D [(cI, .int), (cZ, .boolean)] (fun H => MdAt D cI cZ d S th H))) (Wq (some (.int (bI (sp_offer S x).2.1))) (fun H => MdAt D cI cZ d (sp_offer S x).2.2 (nI (sp_offer S x).1) H) (Ao d 9)) 0 0 (Ao d 9) := by
  have hbd2 : S.2.1 ≤ 40 := hI.2.2.2.1
  have hCC : ∀ cu, cu < 3 → ∀ y, S.2.2.1 cu = some y → y.1 < 4 := fun cu hcu y hy => by have h := hI.2.2.2.2.1 cu hcu; rw [hy] at h; exact h.1
  have hN := hI.1 3 (by omega)
  cases hfu : full S 3 x with
  | true =>
    have e9 : sp_offer S x = (1, false, S) := by simp [sp_offer, hfu]
    rw [e9]
    refine m_start (by decide) (Nat.le_of_ble_eq_true rfl) ?_
    intro p e s m below meth c hx hb hr hG hown hlocks hml hB ls hl
    have hl : lv_has ls 3 [(0, .ref (d 0)), (1, .int (x))] := hl
    obtain ⟨hB0, hK⟩ := hB
    have hS : va_S (Ao d 9) s.heap s.heap [] := va_S.rf
    refine lv_aload_n hx hb dX5_offer_0 rfl (lv_at hl 0 rfl) ?_
    refine lv_iconst (v := nI 3) hx hb dX5_offer_1 (by decide) ?_
    refine lv_iload_n hx hb dX5_offer_2 rfl (lv_at hl 1 rfl) ?_
    refine k1_V hx hb hml hown hG cs_X5_75 (by have h := c5_isFull l D cI cZ d S th 3 x (by omega); rw [hfu] at h; exact h) (by decide) (pzV hK rfl hB0.rc hB0) rfl hl.1 rfl (Nat.le_of_ble_eq_true rfl) dX5_offer_3 ⟨Nat.zero_le _, Nat.zero_le _⟩ rfl ?_
    refine x_ifb_eq (tgt := 15) hx hb dX5_offer_6 (by decide) (fun zc1 => False.elim (by first | exact absurd zc1 (by decide) | omega | (simp_all; done))) (fun zc1 => ?_)
    refine lv_aload_n hx hb dX5_offer_9 rfl (lv_at hl 0 rfl) ?_
    refine lv_iconst (v := nI 1) hx hb dX5_offer_10 (by decide) ?_
    refine k2_V hx hb hml hown hG cs_X5_72 (c5_denies l D cI cZ d S th 1 hap) (by decide) (pzV hK rfl hB0.rc hB0) rfl hl.1 rfl (Nat.le_of_ble_eq_true rfl) dX5_offer_11 ⟨Nat.zero_le _, Nat.zero_le _⟩ rfl hS (fun q h => h) (fun H locs hB0 hz hk hS => ?_)
    exact w_z (PB := (fun H => MdAt D cI cZ d S (nI 1) H)) rfl hB0 hS hx hb hr hlocks dX5_offer_14
  | false =>
    cases hf : fx (S.1 3) x with
    | none =>
      have e9 : sp_offer S x = (0, true, clB (upB S 3 (S.1 3 ++ [(x, 1)])) 3 (-1)) := by simp [sp_offer, hfu, hf]
      rw [e9]
      refine m_start (by decide) (Nat.le_of_ble_eq_true rfl) ?_
      intro p e s m below meth c hx hb hr hG hown hlocks hml hB ls hl
      have hl : lv_has ls 3 [(0, .ref (d 0)), (1, .int (x))] := hl
      obtain ⟨hB0, hK⟩ := hB
      have hS : va_S (Ao d 9) s.heap s.heap [] := va_S.rf
      have es : stq (lgO 3) S.2.1 (S.1 3) x (nI 1) = (S.1 3 ++ [(x, 1)]) := by rw [stq_no hf, show lgO 3 = false from rfl, ent_plain]; rfl
      refine lv_aload_n hx hb dX5_offer_0 rfl (lv_at hl 0 rfl) ?_
      refine lv_iconst (v := nI 3) hx hb dX5_offer_1 (by decide) ?_
      refine lv_iload_n hx hb dX5_offer_2 rfl (lv_at hl 1 rfl) ?_
      refine k1_V hx hb hml hown hG cs_X5_75 (by have h := c5_isFull l D cI cZ d S th 3 x (by omega); rw [hfu] at h; exact h) (by decide) (pzV hK rfl hB0.rc hB0) rfl hl.1 rfl (Nat.le_of_ble_eq_true rfl) dX5_offer_3 ⟨Nat.zero_le _, Nat.zero_le _⟩ rfl ?_
      refine x_ifb_eq (tgt := 15) hx hb dX5_offer_6 (by decide) (fun zc1 => ?_) (fun zc1 => False.elim (by first | exact absurd zc1 (by decide) | omega | (simp_all; done)))
      refine lv_aload_n hx hb dX5_offer_15 rfl (lv_at hl 0 rfl) ?_
      refine lv_iconst (v := nI 3) hx hb dX5_offer_16 (by decide) ?_
      refine lv_iload_n hx hb dX5_offer_17 rfl (lv_at hl 1 rfl) ?_
      refine k1_V hx hb hml hown hG cs_X5_50 (by have h := c5_place l D cI cZ d S th 3 x (by omega); rw [hf] at h; exact h) (by decide) (pzV hK rfl hB0.rc hB0) rfl hl.1 rfl (Nat.le_of_ble_eq_true rfl) dX5_offer_18 ⟨Nat.zero_le _, Nat.zero_le _⟩ rfl ?_
      refine lv_istore_n (lv' := [(2, .int ((-1))), (0, .ref (d 0)), (1, .int (x))]) hx hb dX5_offer_21 rfl hl (by decide) rfl (fun ls hl => ?_)
      refine lv_aload_n hx hb dX5_offer_22 rfl (lv_at hl 1 rfl) ?_
      refine lv_iconst (v := nI 3) hx hb dX5_offer_23 (by decide) ?_
      refine lv_iload_n hx hb dX5_offer_24 rfl (lv_at hl 2 rfl) ?_
      refine lv_iload_n hx hb dX5_offer_25 rfl (lv_at hl 0 rfl) ?_
      refine lv_iconst (v := (-1)) hx hb dX5_offer_26 (by decide) ?_
      refine lv_icmp_ne (tgt := 34) hx hb dX5_offer_27 (by decide) (fun zc2 => False.elim (by first | exact absurd zc2 (by decide) | omega | (simp_all; done))) (fun zc2 => ?_)
      refine lv_iconst (v := nI 1) hx hb dX5_offer_30 (by decide) ?_
      refine lv_goto (tgt := 46) hx hb dX5_offer_31 (by decide) ?_
      refine k2_V hx hb hml hown hG cs_X5_79 (c5_puts_no l D cI cZ d S th 3 x (nI (1)) (by omega) hap hf (hN.2) (by omega)) (by decide) (pzV hK rfl hB0.rc hB0) rfl hl.1 rfl (Nat.le_of_ble_eq_true rfl) dX5_offer_46 ⟨Nat.zero_le _, Nat.zero_le _⟩ rfl hS (fun q h => h) (fun H locs hB0 hz hk hS => ?_)
      rw [es] at hB0
      refine lv_aload_n hx hb dX5_offer_49 rfl (lv_at hl 1 rfl) ?_
      refine lv_iconst (v := nI 3) hx hb dX5_offer_50 (by decide) ?_
      refine lv_iconst (v := (-1)) hx hb dX5_offer_51 (by decide) ?_
      refine k2_V hx hb hml hown hG cs_X5_62 (c5_closes l D cI cZ d (upB S 3 (S.1 3 ++ [(x, 1)])) th 3 (-1) (by omega) hCC hap) (by decide) (pzV hK rfl hB0.rc hB0) rfl hl.1 rfl (Nat.le_of_ble_eq_true rfl) dX5_offer_52 ⟨Nat.zero_le _, Nat.zero_le _⟩ rfl hS (fun q h => h) (fun H locs hB0 hz hk hS => ?_)
      refine lv_aload_n hx hb dX5_offer_55 rfl (lv_at hl 1 rfl) ?_
      refine lv_iload_n hx hb dX5_offer_56 rfl (lv_at hl 0 rfl) ?_
      refine lv_iconst (v := (-1)) hx hb dX5_offer_57 (by decide) ?_
      refine lv_icmp_ne (tgt := 65) hx hb dX5_offer_58 (by decide) (fun zc3 => False.elim (by first | exact absurd zc3 (by decide) | omega | (simp_all; done))) (fun zc3 => ?_)
      refine lv_iconst (v := nI 1) hx hb dX5_offer_61 (by decide) ?_
      refine lv_goto (tgt := 66) hx hb dX5_offer_62 (by decide) ?_
      refine k2_V hx hb hml hown hG cs_X5_82 (c5_says l D cI cZ d (clB (upB S 3 (S.1 3 ++ [(x, 1)])) 3 (-1)) th true hap) (by decide) (pzV hK rfl hB0.rc hB0) rfl hl.1 rfl (Nat.le_of_ble_eq_true rfl) dX5_offer_66 ⟨Nat.zero_le _, Nat.zero_le _⟩ rfl hS (fun q h => h) (fun H locs hB0 hz hk hS => ?_)
      exact w_z (PB := (fun H => MdAt D cI cZ d (clB (upB S 3 (S.1 3 ++ [(x, 1)])) 3 (-1)) (nI 0) H)) rfl hB0 hS hx hb hr hlocks dX5_offer_69
    | some i =>
      have hi := (fx_some hf).1
      have e9 : sp_offer S x = (0, false, clB (upB S 3 (sv (S.1 3) i (vf (S.1 3) i + 1))) 3 (-1)) := by simp [sp_offer, hfu, hf]
      rw [e9]
      refine m_start (by decide) (Nat.le_of_ble_eq_true rfl) ?_
      intro p e s m below meth c hx hb hr hG hown hlocks hml hB ls hl
      have hl : lv_has ls 3 [(0, .ref (d 0)), (1, .int (x))] := hl
      obtain ⟨hB0, hK⟩ := hB
      have hS : va_S (Ao d 9) s.heap s.heap [] := va_S.rf
      have es : stq (lgO 3) S.2.1 (S.1 3) x (vf (S.1 3) i + nI 1) = (sv (S.1 3) i (vf (S.1 3) i + 1)) := stq_at hf
      refine lv_aload_n hx hb dX5_offer_0 rfl (lv_at hl 0 rfl) ?_
      refine lv_iconst (v := nI 3) hx hb dX5_offer_1 (by decide) ?_
      refine lv_iload_n hx hb dX5_offer_2 rfl (lv_at hl 1 rfl) ?_
      refine k1_V hx hb hml hown hG cs_X5_75 (by have h := c5_isFull l D cI cZ d S th 3 x (by omega); rw [hfu] at h; exact h) (by decide) (pzV hK rfl hB0.rc hB0) rfl hl.1 rfl (Nat.le_of_ble_eq_true rfl) dX5_offer_3 ⟨Nat.zero_le _, Nat.zero_le _⟩ rfl ?_
      refine x_ifb_eq (tgt := 15) hx hb dX5_offer_6 (by decide) (fun zc1 => ?_) (fun zc1 => False.elim (by first | exact absurd zc1 (by decide) | omega | (simp_all; done)))
      refine lv_aload_n hx hb dX5_offer_15 rfl (lv_at hl 0 rfl) ?_
      refine lv_iconst (v := nI 3) hx hb dX5_offer_16 (by decide) ?_
      refine lv_iload_n hx hb dX5_offer_17 rfl (lv_at hl 1 rfl) ?_
      refine k1_V hx hb hml hown hG cs_X5_50 (by have h := c5_place l D cI cZ d S th 3 x (by omega); rw [hf] at h; exact h) (by decide) (pzV hK rfl hB0.rc hB0) rfl hl.1 rfl (Nat.le_of_ble_eq_true rfl) dX5_offer_18 ⟨Nat.zero_le _, Nat.zero_le _⟩ rfl ?_
      refine lv_istore_n (lv' := [(2, .int (nI (i))), (0, .ref (d 0)), (1, .int (x))]) hx hb dX5_offer_21 rfl hl (by decide) rfl (fun ls hl => ?_)
      refine lv_aload_n hx hb dX5_offer_22 rfl (lv_at hl 1 rfl) ?_
      refine lv_iconst (v := nI 3) hx hb dX5_offer_23 (by decide) ?_
      refine lv_iload_n hx hb dX5_offer_24 rfl (lv_at hl 2 rfl) ?_
      refine lv_iload_n hx hb dX5_offer_25 rfl (lv_at hl 0 rfl) ?_
      refine lv_iconst (v := (-1)) hx hb dX5_offer_26 (by decide) ?_
      refine lv_icmp_ne (tgt := 34) hx hb dX5_offer_27 (by decide) (fun zc2 => ?_) (fun zc2 => False.elim (by first | omega | contradiction | exact absurd zc2 (m1_ne _ (by omega)) | exact absurd zc2 (by decide) | exact absurd (Eq.symm zc2) (m1_ne _ (by omega)) | (simp_all; done)))
      refine lv_aload_n hx hb dX5_offer_34 rfl (lv_at hl 1 rfl) ?_
      obtain ⟨K, V, sz, cb, ck, ca, it, ou, hP, hMB, hMC, hMO⟩ := id hB0
      have hP : va_P D vwCl [(d 0, .inr (5, [.ref (d 1), .ref (d 2), .ref (d 3), .int (nI (S.2.1)), .int (th), .ref (d 4), .ref (d 5), .ref (d 6), .ref (d 7), .ref (d 8), .int (nI (S.2.2.2.length))])), (d 1, .inl (cI, (804, .inl K))), (d 2, .inl (cI, (804, .inl V))), (d 3, .inl (cI, (4, .inl sz))), (d 4, .inl (cI, (3, .inl cb))), (d 5, .inl (cI, (3, .inl ck))), (d 6, .inl (cI, (3, .inl ca))), (d 7, .inl (cZ, (3, .inl it))), (d 8, .inl (cI, (6000, .inl ou)))] s.heap := hP
      have hD : va_D (Ao d 9) [(d 0, .inr (5, [.ref (d 1), .ref (d 2), .ref (d 3), .int (nI (S.2.1)), .int (th), .ref (d 4), .ref (d 5), .ref (d 6), .ref (d 7), .ref (d 8), .int (nI (S.2.2.2.length))])), (d 1, .inl (cI, (804, .inl K))), (d 2, .inl (cI, (804, .inl V))), (d 3, .inl (cI, (4, .inl sz))), (d 4, .inl (cI, (3, .inl cb))), (d 5, .inl (cI, (3, .inl ck))), (d 6, .inl (cI, (3, .inl ca))), (d 7, .inl (cZ, (3, .inl it))), (d 8, .inl (cI, (6000, .inl ou)))] := hap.D9
      refine gf_X5_13 hx hb hG hown hK hP 0 rfl rfl dX5_offer_35 ?_
      refine lv_sipush (v := nI 603) hx hb dX5_offer_38 (by decide) ?_
      refine lv_iload_n hx hb dX5_offer_41 rfl (lv_at hl 0 rfl) ?_
      refine x_iadd (v := nI (603 + i)) hx hb dX5_offer_42 (nI_add _ _) ?_
      refine x_iald hx hb hK hP 2 0 rfl rfl (by omega) (by decide) dX5_offer_43 ?_
      rw [show V (603 + i) = vf (S.1 3) i from ((hMB 3 (by omega)).2.2 i (by omega)).2]
      refine lv_iconst (v := nI 1) hx hb dX5_offer_44 (by decide) ?_
      refine x_iadd (v := (vf (S.1 3) i) + (nI (1))) hx hb dX5_offer_45 rfl ?_
      refine k2_V hx hb hml hown hG cs_X5_79 (c5_puts_at l D cI cZ d S th 3 x ((vf (S.1 3) i) + (nI (1))) (by omega) hap i hf) (by decide) (pzV hK rfl hB0.rc hB0) rfl hl.1 rfl (Nat.le_of_ble_eq_true rfl) dX5_offer_46 ⟨Nat.zero_le _, Nat.zero_le _⟩ rfl hS (fun q h => h) (fun H locs hB0 hz hk hS => ?_)
      rw [es] at hB0
      refine lv_aload_n hx hb dX5_offer_49 rfl (lv_at hl 1 rfl) ?_
      refine lv_iconst (v := nI 3) hx hb dX5_offer_50 (by decide) ?_
      refine lv_iconst (v := (-1)) hx hb dX5_offer_51 (by decide) ?_
      refine k2_V hx hb hml hown hG cs_X5_62 (c5_closes l D cI cZ d (upB S 3 (sv (S.1 3) i (vf (S.1 3) i + 1))) th 3 (-1) (by omega) hCC hap) (by decide) (pzV hK rfl hB0.rc hB0) rfl hl.1 rfl (Nat.le_of_ble_eq_true rfl) dX5_offer_52 ⟨Nat.zero_le _, Nat.zero_le _⟩ rfl hS (fun q h => h) (fun H locs hB0 hz hk hS => ?_)
      refine lv_aload_n hx hb dX5_offer_55 rfl (lv_at hl 1 rfl) ?_
      refine lv_iload_n hx hb dX5_offer_56 rfl (lv_at hl 0 rfl) ?_
      refine lv_iconst (v := (-1)) hx hb dX5_offer_57 (by decide) ?_
      refine lv_icmp_ne (tgt := 65) hx hb dX5_offer_58 (by decide) (fun zc3 => ?_) (fun zc3 => False.elim (by first | omega | contradiction | exact absurd zc3 (m1_ne _ (by omega)) | exact absurd zc3 (by decide) | exact absurd (Eq.symm zc3) (m1_ne _ (by omega)) | (simp_all; done)))
      refine lv_iconst (v := nI 0) hx hb dX5_offer_65 (by decide) ?_
      refine k2_V hx hb hml hown hG cs_X5_82 (c5_says l D cI cZ d (clB (upB S 3 (sv (S.1 3) i (vf (S.1 3) i + 1))) 3 (-1)) th false hap) (by decide) (pzV hK rfl hB0.rc hB0) rfl hl.1 rfl (Nat.le_of_ble_eq_true rfl) dX5_offer_66 ⟨Nat.zero_le _, Nat.zero_le _⟩ rfl hS (fun q h => h) (fun H locs hB0 hz hk hS => ?_)
      exact w_z (PB := (fun H => MdAt D cI cZ d (clB (upB S 3 (sv (S.1 3) i (vf (S.1 3) i + 1))) 3 (-1)) (nI 0) H)) rfl hB0 hS hx hb hr hlocks dX5_offer_69
set_option maxHeartbeats 4000000 in
set_option maxRecDepth 100000 in
theorem m_poll (l : Launch) (D : va_G) (cI cZ : ClassId) (d : Nat → Nat) (S : St) (th : Int32) (hI : Inv S) (hap : Ap d 9) : Met l yX5_poll (ws_ yX5_poll cX5_poll 2 (some .int)) (rmN 4) (va_Pc [.ref (d 0)] (pz D [(cI, .int), (cZ, .boolean)] (fun H => MdAt D cI cZ d S th H))) (Wq (some (.int (sp_poll S).2.1)) (fun H => MdAt D cI cZ d (sp_poll S).2.2 (nI (sp_poll S).1) H) (Ao d 9)) 0 0 (Ao d 9) := by
  have hbd2 : S.2.1 ≤ 40 := hI.2.2.2.1
  have hCC : ∀ cu, cu < 3 → ∀ y, S.2.2.1 cu = some y → y.1 < 4 := fun cu hcu y hy => by have h := hI.2.2.2.2.1 cu hcu; rw [hy] at h; exact h.1
  have hN := hI.1 3 (by omega)
  by_cases h0 : (S.1 3).length = 0
  · skip
    have e9 : sp_poll S = (1, 0, S) := by unfold sp_poll; rw [if_pos h0]
    rw [e9]
    refine m_start (by decide) (Nat.le_of_ble_eq_true rfl) ?_
    intro p e s m below meth c hx hb hr hG hown hlocks hml hB ls hl
    have hl : lv_has ls 2 [(0, .ref (d 0))] := hl
    obtain ⟨hB0, hK⟩ := hB
    have hS : va_S (Ao d 9) s.heap s.heap [] := va_S.rf
    refine lv_aload_n hx hb dX5_poll_0 rfl (lv_at hl 0 rfl) ?_
    obtain ⟨K, V, sz, cb, ck, ca, it, ou, hP, hMB, hMC, hMO⟩ := id hB0
    have hP : va_P D vwCl [(d 0, .inr (5, [.ref (d 1), .ref (d 2), .ref (d 3), .int (nI (S.2.1)), .int (th), .ref (d 4), .ref (d 5), .ref (d 6), .ref (d 7), .ref (d 8), .int (nI (S.2.2.2.length))])), (d 1, .inl (cI, (804, .inl K))), (d 2, .inl (cI, (804, .inl V))), (d 3, .inl (cI, (4, .inl sz))), (d 4, .inl (cI, (3, .inl cb))), (d 5, .inl (cI, (3, .inl ck))), (d 6, .inl (cI, (3, .inl ca))), (d 7, .inl (cZ, (3, .inl it))), (d 8, .inl (cI, (6000, .inl ou)))] s.heap := hP
    have hD : va_D (Ao d 9) [(d 0, .inr (5, [.ref (d 1), .ref (d 2), .ref (d 3), .int (nI (S.2.1)), .int (th), .ref (d 4), .ref (d 5), .ref (d 6), .ref (d 7), .ref (d 8), .int (nI (S.2.2.2.length))])), (d 1, .inl (cI, (804, .inl K))), (d 2, .inl (cI, (804, .inl V))), (d 3, .inl (cI, (4, .inl sz))), (d 4, .inl (cI, (3, .inl cb))), (d 5, .inl (cI, (3, .inl ck))), (d 6, .inl (cI, (3, .inl ca))), (d 7, .inl (cZ, (3, .inl it))), (d 8, .inl (cI, (6000, .inl ou)))] := hap.D9
    refine gf_X5_16 hx hb hG hown hK hP 0 rfl rfl dX5_poll_1 ?_
    refine lv_iconst (v := nI 3) hx hb dX5_poll_4 (by decide) ?_
    refine x_iald hx hb hK hP 3 0 rfl rfl (by omega) (by decide) dX5_poll_5 ?_
    rw [(hMB (3) (by omega)).1]
    refine x_if_ne (tgt := 15) hx hb dX5_poll_6 (by decide) (by omega) (fun zc1 => False.elim (by first | omega | contradiction | exact absurd zc1 (m1_ne _ (by omega)) | exact absurd zc1 (by decide) | exact absurd (Eq.symm zc1) (m1_ne _ (by omega)) | (simp_all; done))) (fun zc1 => ?_)
    refine lv_aload_n hx hb dX5_poll_9 rfl (lv_at hl 0 rfl) ?_
    refine lv_iconst (v := nI 1) hx hb dX5_poll_10 (by decide) ?_
    refine k2_V hx hb hml hown hG cs_X5_58 (c5_refuse l D cI cZ d S th 1 hap) (by decide) (pzV hK rfl hB0.rc hB0) rfl hl.1 rfl (Nat.le_of_ble_eq_true rfl) dX5_poll_11 ⟨Nat.zero_le _, Nat.zero_le _⟩ rfl hS (fun q h => h) (fun H locs hB0 hz hk hS => ?_)
    exact w_i (PB := (fun H => MdAt D cI cZ d S (nI 1) H)) rfl hB0 hS hx hb hr hlocks dX5_poll_14
  · skip
    have e9 : sp_poll S = (0, kf (S.1 3) 0, clB (upB S 3 ((S.1 3).eraseIdx 0)) 3 (-1)) := by unfold sp_poll; rw [if_neg h0]
    rw [e9]
    refine m_start (by decide) (Nat.le_of_ble_eq_true rfl) ?_
    intro p e s m below meth c hx hb hr hG hown hlocks hml hB ls hl
    have hl : lv_has ls 2 [(0, .ref (d 0))] := hl
    obtain ⟨hB0, hK⟩ := hB
    have hS : va_S (Ao d 9) s.heap s.heap [] := va_S.rf
    refine lv_aload_n hx hb dX5_poll_0 rfl (lv_at hl 0 rfl) ?_
    obtain ⟨K, V, sz, cb, ck, ca, it, ou, hP, hMB, hMC, hMO⟩ := id hB0
    have hP : va_P D vwCl [(d 0, .inr (5, [.ref (d 1), .ref (d 2), .ref (d 3), .int (nI (S.2.1)), .int (th), .ref (d 4), .ref (d 5), .ref (d 6), .ref (d 7), .ref (d 8), .int (nI (S.2.2.2.length))])), (d 1, .inl (cI, (804, .inl K))), (d 2, .inl (cI, (804, .inl V))), (d 3, .inl (cI, (4, .inl sz))), (d 4, .inl (cI, (3, .inl cb))), (d 5, .inl (cI, (3, .inl ck))), (d 6, .inl (cI, (3, .inl ca))), (d 7, .inl (cZ, (3, .inl it))), (d 8, .inl (cI, (6000, .inl ou)))] s.heap := hP
    have hD : va_D (Ao d 9) [(d 0, .inr (5, [.ref (d 1), .ref (d 2), .ref (d 3), .int (nI (S.2.1)), .int (th), .ref (d 4), .ref (d 5), .ref (d 6), .ref (d 7), .ref (d 8), .int (nI (S.2.2.2.length))])), (d 1, .inl (cI, (804, .inl K))), (d 2, .inl (cI, (804, .inl V))), (d 3, .inl (cI, (4, .inl sz))), (d 4, .inl (cI, (3, .inl cb))), (d 5, .inl (cI, (3, .inl ck))), (d 6, .inl (cI, (3, .inl ca))), (d 7, .inl (cZ, (3, .inl it))), (d 8, .inl (cI, (6000, .inl ou)))] := hap.D9
    refine gf_X5_16 hx hb hG hown hK hP 0 rfl rfl dX5_poll_1 ?_
    refine lv_iconst (v := nI 3) hx hb dX5_poll_4 (by decide) ?_
    refine x_iald hx hb hK hP 3 0 rfl rfl (by omega) (by decide) dX5_poll_5 ?_
    rw [(hMB (3) (by omega)).1]
    refine x_if_ne (tgt := 15) hx hb dX5_poll_6 (by decide) (by omega) (fun zc1 => ?_) (fun zc1 => False.elim (by first | omega | contradiction | exact absurd zc1 (m1_ne _ (by omega)) | exact absurd zc1 (by decide) | exact absurd (Eq.symm zc1) (m1_ne _ (by omega)) | (simp_all; done)))
    refine lv_aload_n hx hb dX5_poll_15 rfl (lv_at hl 0 rfl) ?_
    refine gf_X5_7 hx hb hG hown hK hP 0 rfl rfl dX5_poll_16 ?_
    refine lv_sipush (v := nI 603) hx hb dX5_poll_19 (by decide) ?_
    refine x_iald hx hb hK hP 1 0 rfl rfl (by omega) (by decide) dX5_poll_22 ?_
    rw [show K (603) = kf (S.1 3) 0 from ((hMB 3 (by omega)).2.2 0 (by omega)).1]
    refine lv_istore_n (lv' := [(1, .int (kf (S.1 3) 0)), (0, .ref (d 0))]) hx hb dX5_poll_23 rfl hl (by decide) rfl (fun ls hl => ?_)
    refine lv_aload_n hx hb dX5_poll_24 rfl (lv_at hl 1 rfl) ?_
    refine lv_iconst (v := nI 3) hx hb dX5_poll_25 (by decide) ?_
    refine lv_iconst (v := nI 0) hx hb dX5_poll_26 (by decide) ?_
    refine k2_V hx hb hml hown hG cs_X5_46 (c5_takes l D cI cZ d S th 3 0 (by omega) (by omega) hap) (by decide) (pzV hK rfl hB0.rc hB0) rfl hl.1 rfl (Nat.le_of_ble_eq_true rfl) dX5_poll_27 ⟨Nat.zero_le _, Nat.zero_le _⟩ rfl hS (fun q h => h) (fun H locs hB0 hz hk hS => ?_)
    refine lv_aload_n hx hb dX5_poll_30 rfl (lv_at hl 1 rfl) ?_
    refine lv_iconst (v := nI 3) hx hb dX5_poll_31 (by decide) ?_
    refine lv_iconst (v := (-1)) hx hb dX5_poll_32 (by decide) ?_
    refine k2_V hx hb hml hown hG cs_X5_62 (c5_closes l D cI cZ d (upB S 3 ((S.1 3).eraseIdx 0)) th 3 (-1) (by omega) hCC hap) (by decide) (pzV hK rfl hB0.rc hB0) rfl hl.1 rfl (Nat.le_of_ble_eq_true rfl) dX5_poll_33 ⟨Nat.zero_le _, Nat.zero_le _⟩ rfl hS (fun q h => h) (fun H locs hB0 hz hk hS => ?_)
    refine lv_aload_n hx hb dX5_poll_36 rfl (lv_at hl 1 rfl) ?_
    refine lv_iload_n hx hb dX5_poll_37 rfl (lv_at hl 0 rfl) ?_
    refine k2_V hx hb hml hown hG cs_X5_65 (c5_told l D cI cZ d (clB (upB S 3 ((S.1 3).eraseIdx 0)) 3 (-1)) th (kf (S.1 3) 0) hap) (by decide) (pzV hK rfl hB0.rc hB0) rfl hl.1 rfl (Nat.le_of_ble_eq_true rfl) dX5_poll_38 ⟨Nat.zero_le _, Nat.zero_le _⟩ rfl hS (fun q h => h) (fun H locs hB0 hz hk hS => ?_)
    exact w_i (PB := (fun H => MdAt D cI cZ d (clB (upB S 3 ((S.1 3).eraseIdx 0)) 3 (-1)) (nI 0) H)) rfl hB0 hS hx hb hr hlocks dX5_poll_41
set_option maxHeartbeats 4000000 in
set_option maxRecDepth 100000 in
theorem m_toEnd (l : Launch) (D : va_G) (cI cZ : ClassId) (d : Nat → Nat) (S : St) (th : Int32) (x : Int32) (hI : Inv S) (hap : Ap d 9) : Met l yX5_toEnd (ws_ yX5_toEnd cX5_toEnd 4 (some .int)) (rmN 4) (va_Pc [.ref (d 0), .int x] (pz D [(cI, .int), (cZ, .boolean)] (fun H => MdAt D cI cZ d S th H))) (Wq (some (.int (sp_toEnd S x).2.1)) (fun H => MdAt D cI cZ d (sp_toEnd S x).2.2 (nI (sp_toEnd S x).1) H) (Ao d 9)) 0 0 (Ao d 9) := by
  have hbd2 : S.2.1 ≤ 40 := hI.2.2.2.1
  have hCC : ∀ cu, cu < 3 → ∀ y, S.2.2.1 cu = some y → y.1 < 4 := fun cu hcu y hy => by have h := hI.2.2.2.2.1 cu hcu; rw [hy] at h; exact h.1
  have hN := hI.1 3 (by omega)
  cases hf : fx (S.1 3) x with
  | none =>
    have e9 : sp_toEnd S x = (1, 0, S) := by simp [sp_toEnd, hf]
    rw [e9]
    refine m_start (by decide) (Nat.le_of_ble_eq_true rfl) ?_
    intro p e s m below meth c hx hb hr hG hown hlocks hml hB ls hl
    have hl : lv_has ls 4 [(0, .ref (d 0)), (1, .int (x))] := hl
    obtain ⟨hB0, hK⟩ := hB
    have hS : va_S (Ao d 9) s.heap s.heap [] := va_S.rf
    refine lv_aload_n hx hb dX5_toEnd_0 rfl (lv_at hl 0 rfl) ?_
    refine lv_iconst (v := nI 3) hx hb dX5_toEnd_1 (by decide) ?_
    refine lv_iload_n hx hb dX5_toEnd_2 rfl (lv_at hl 1 rfl) ?_
    refine k1_V hx hb hml hown hG cs_X5_50 (by have h := c5_place l D cI cZ d S th 3 x (by omega); rw [hf] at h; exact h) (by decide) (pzV hK rfl hB0.rc hB0) rfl hl.1 rfl (Nat.le_of_ble_eq_true rfl) dX5_toEnd_3 ⟨Nat.zero_le _, Nat.zero_le _⟩ rfl ?_
    refine lv_istore_n (lv' := [(2, .int ((-1))), (0, .ref (d 0)), (1, .int (x))]) hx hb dX5_toEnd_6 rfl hl (by decide) rfl (fun ls hl => ?_)
    refine lv_iload_n hx hb dX5_toEnd_7 rfl (lv_at hl 0 rfl) ?_
    refine lv_iconst (v := (-1)) hx hb dX5_toEnd_8 (by decide) ?_
    refine lv_icmp_ne (tgt := 18) hx hb dX5_toEnd_9 (by decide) (fun zc1 => False.elim (by first | exact absurd zc1 (by decide) | omega | (simp_all; done))) (fun zc1 => ?_)
    refine lv_aload_n hx hb dX5_toEnd_12 rfl (lv_at hl 1 rfl) ?_
    refine lv_iconst (v := nI 1) hx hb dX5_toEnd_13 (by decide) ?_
    refine k2_V hx hb hml hown hG cs_X5_58 (c5_refuse l D cI cZ d S th 1 hap) (by decide) (pzV hK rfl hB0.rc hB0) rfl hl.1 rfl (Nat.le_of_ble_eq_true rfl) dX5_toEnd_14 ⟨Nat.zero_le _, Nat.zero_le _⟩ rfl hS (fun q h => h) (fun H locs hB0 hz hk hS => ?_)
    exact w_i (PB := (fun H => MdAt D cI cZ d S (nI 1) H)) rfl hB0 hS hx hb hr hlocks dX5_toEnd_17
  | some i =>
    have hi := (fx_some hf).1
    have e9 : sp_toEnd S x = (0, nI i, clB (upB S 3 ((S.1 3).eraseIdx i ++ [(x, vf (S.1 3) i)])) 3 (-1)) := by simp [sp_toEnd, hf]
    rw [e9]
    refine m_start (by decide) (Nat.le_of_ble_eq_true rfl) ?_
    intro p e s m below meth c hx hb hr hG hown hlocks hml hB ls hl
    have hl : lv_has ls 4 [(0, .ref (d 0)), (1, .int (x))] := hl
    obtain ⟨hB0, hK⟩ := hB
    have hS : va_S (Ao d 9) s.heap s.heap [] := va_S.rf
    refine lv_aload_n hx hb dX5_toEnd_0 rfl (lv_at hl 0 rfl) ?_
    refine lv_iconst (v := nI 3) hx hb dX5_toEnd_1 (by decide) ?_
    refine lv_iload_n hx hb dX5_toEnd_2 rfl (lv_at hl 1 rfl) ?_
    refine k1_V hx hb hml hown hG cs_X5_50 (by have h := c5_place l D cI cZ d S th 3 x (by omega); rw [hf] at h; exact h) (by decide) (pzV hK rfl hB0.rc hB0) rfl hl.1 rfl (Nat.le_of_ble_eq_true rfl) dX5_toEnd_3 ⟨Nat.zero_le _, Nat.zero_le _⟩ rfl ?_
    refine lv_istore_n (lv' := [(2, .int (nI (i))), (0, .ref (d 0)), (1, .int (x))]) hx hb dX5_toEnd_6 rfl hl (by decide) rfl (fun ls hl => ?_)
    refine lv_iload_n hx hb dX5_toEnd_7 rfl (lv_at hl 0 rfl) ?_
    refine lv_iconst (v := (-1)) hx hb dX5_toEnd_8 (by decide) ?_
    refine lv_icmp_ne (tgt := 18) hx hb dX5_toEnd_9 (by decide) (fun zc1 => ?_) (fun zc1 => False.elim (by first | omega | contradiction | exact absurd zc1 (m1_ne _ (by omega)) | exact absurd zc1 (by decide) | exact absurd (Eq.symm zc1) (m1_ne _ (by omega)) | (simp_all; done)))
    refine lv_aload_n hx hb dX5_toEnd_18 rfl (lv_at hl 1 rfl) ?_
    obtain ⟨K, V, sz, cb, ck, ca, it, ou, hP, hMB, hMC, hMO⟩ := id hB0
    have hP : va_P D vwCl [(d 0, .inr (5, [.ref (d 1), .ref (d 2), .ref (d 3), .int (nI (S.2.1)), .int (th), .ref (d 4), .ref (d 5), .ref (d 6), .ref (d 7), .ref (d 8), .int (nI (S.2.2.2.length))])), (d 1, .inl (cI, (804, .inl K))), (d 2, .inl (cI, (804, .inl V))), (d 3, .inl (cI, (4, .inl sz))), (d 4, .inl (cI, (3, .inl cb))), (d 5, .inl (cI, (3, .inl ck))), (d 6, .inl (cI, (3, .inl ca))), (d 7, .inl (cZ, (3, .inl it))), (d 8, .inl (cI, (6000, .inl ou)))] s.heap := hP
    have hD : va_D (Ao d 9) [(d 0, .inr (5, [.ref (d 1), .ref (d 2), .ref (d 3), .int (nI (S.2.1)), .int (th), .ref (d 4), .ref (d 5), .ref (d 6), .ref (d 7), .ref (d 8), .int (nI (S.2.2.2.length))])), (d 1, .inl (cI, (804, .inl K))), (d 2, .inl (cI, (804, .inl V))), (d 3, .inl (cI, (4, .inl sz))), (d 4, .inl (cI, (3, .inl cb))), (d 5, .inl (cI, (3, .inl ck))), (d 6, .inl (cI, (3, .inl ca))), (d 7, .inl (cZ, (3, .inl it))), (d 8, .inl (cI, (6000, .inl ou)))] := hap.D9
    refine gf_X5_13 hx hb hG hown hK hP 0 rfl rfl dX5_toEnd_19 ?_
    refine lv_sipush (v := nI 603) hx hb dX5_toEnd_22 (by decide) ?_
    refine lv_iload_n hx hb dX5_toEnd_25 rfl (lv_at hl 0 rfl) ?_
    refine x_iadd (v := nI (603 + i)) hx hb dX5_toEnd_26 (nI_add _ _) ?_
    refine x_iald hx hb hK hP 2 0 rfl rfl (by omega) (by decide) dX5_toEnd_27 ?_
    rw [show V (603 + i) = vf (S.1 3) i from ((hMB 3 (by omega)).2.2 i (by omega)).2]
    refine lv_istore_n (lv' := [(3, .int (vf (S.1 3) i)), (2, .int (nI (i))), (0, .ref (d 0)), (1, .int (x))]) hx hb dX5_toEnd_28 rfl hl (by decide) rfl (fun ls hl => ?_)
    refine lv_aload_n hx hb dX5_toEnd_29 rfl (lv_at hl 2 rfl) ?_
    refine lv_iconst (v := nI 3) hx hb dX5_toEnd_30 (by decide) ?_
    refine lv_iload_n hx hb dX5_toEnd_31 rfl (lv_at hl 1 rfl) ?_
    refine k2_V hx hb hml hown hG cs_X5_46 (c5_takes l D cI cZ d S th 3 i (by omega) (hi) hap) (by decide) (pzV hK rfl hB0.rc hB0) rfl hl.1 rfl (Nat.le_of_ble_eq_true rfl) dX5_toEnd_32 ⟨Nat.zero_le _, Nat.zero_le _⟩ rfl hS (fun q h => h) (fun H locs hB0 hz hk hS => ?_)
    refine lv_aload_n hx hb dX5_toEnd_35 rfl (lv_at hl 2 rfl) ?_
    refine lv_iconst (v := nI 3) hx hb dX5_toEnd_36 (by decide) ?_
    refine lv_iload_n hx hb dX5_toEnd_37 rfl (lv_at hl 3 rfl) ?_
    refine lv_iload_n hx hb dX5_toEnd_38 rfl (lv_at hl 0 rfl) ?_
    refine k2_V hx hb hml hown hG cs_X5_54 (c5_comes_pl l D cI cZ d (upB S 3 ((S.1 3).eraseIdx i)) th 3 x (vf (S.1 3) i) (by omega) (by rw [upB_at, era_len hi]; omega) hap (by omega)) (by decide) (pzV hK rfl hB0.rc hB0) rfl hl.1 rfl (Nat.le_of_ble_eq_true rfl) dX5_toEnd_39 ⟨Nat.zero_le _, Nat.zero_le _⟩ rfl hS (fun q h => h) (fun H locs hB0 hz hk hS => ?_)
    refine lv_aload_n hx hb dX5_toEnd_42 rfl (lv_at hl 2 rfl) ?_
    rw [upB_up, upB_at] at hB0
    refine lv_iconst (v := nI 3) hx hb dX5_toEnd_43 (by decide) ?_
    refine lv_iconst (v := (-1)) hx hb dX5_toEnd_44 (by decide) ?_
    refine k2_V hx hb hml hown hG cs_X5_62 (c5_closes l D cI cZ d (upB S 3 ((S.1 3).eraseIdx i ++ [(x, vf (S.1 3) i)])) th 3 (-1) (by omega) hCC hap) (by decide) (pzV hK rfl hB0.rc hB0) rfl hl.1 rfl (Nat.le_of_ble_eq_true rfl) dX5_toEnd_45 ⟨Nat.zero_le _, Nat.zero_le _⟩ rfl hS (fun q h => h) (fun H locs hB0 hz hk hS => ?_)
    refine lv_aload_n hx hb dX5_toEnd_48 rfl (lv_at hl 2 rfl) ?_
    refine lv_iload_n hx hb dX5_toEnd_49 rfl (lv_at hl 1 rfl) ?_
    refine k2_V hx hb hml hown hG cs_X5_65 (c5_told l D cI cZ d (clB (upB S 3 ((S.1 3).eraseIdx i ++ [(x, vf (S.1 3) i)])) 3 (-1)) th (nI (i)) hap) (by decide) (pzV hK rfl hB0.rc hB0) rfl hl.1 rfl (Nat.le_of_ble_eq_true rfl) dX5_toEnd_50 ⟨Nat.zero_le _, Nat.zero_le _⟩ rfl hS (fun q h => h) (fun H locs hB0 hz hk hS => ?_)
    exact w_i (PB := (fun H => MdAt D cI cZ d (clB (upB S 3 ((S.1 3).eraseIdx i ++ [(x, vf (S.1 3) i)])) 3 (-1)) (nI 0) H)) rfl hB0 hS hx hb hr hlocks dX5_toEnd_53
