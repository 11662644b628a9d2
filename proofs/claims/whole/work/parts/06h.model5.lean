def wS (S : St) (O : List Int32) : St := (S.1, S.2.1, S.2.2.1, O)
def dnI : Nat → Int32
  | 0 => -1
  | i + 1 => nI i
theorem dnI_step (i : Nat) : nI i + Int32.ofInt (-1) = dnI i := by
  cases i with
  | zero => rfl
  | succ i =>
    show nI (i + 1) + Int32.ofInt (-1) = nI i
    rw [← nI_add i 1, Int32.add_assoc, show nI 1 + Int32.ofInt (-1) = 0 from by decide, Int32.add_zero]
theorem nI_nneg {i : Nat} (h : i < 2 ^ 31) : ¬ nI i < 0 := by
  rw [i_lt, nI_toInt h]
  have e0 : (0 : Int32).toInt = 0 := by decide
  omega
theorem nI_npos {i : Nat} (h : i < 2 ^ 31) (h0 : 0 < i) : ¬ nI i ≤ 0 := by
  rw [i_le, nI_toInt h]
  have e0 : (0 : Int32).toInt = 0 := by decide
  omega
/-- the sum of a book's mixed pairs from its end -/
def hsU (L : Bk) : Nat → Int32
  | 0 => 0
  | m + 1 => hsU L m + (kf L (L.length - 1 - m) ^^^ vf L (L.length - 1 - m))
theorem hsU_s (L : Bk) {i : Nat} (h : i < L.length) : hsU L (L.length - (i + 1)) + (kf L i ^^^ vf L i) = hsU L (L.length - i) := by
  rw [show L.length - i = (L.length - (i + 1)) + 1 by omega, hsU, show L.length - 1 - (L.length - (i + 1)) = i by omega]
theorem hsU_L (L : Bk) : ∀ m, m ≤ L.length → hsU L m + hsL L (L.length - m) = hsL L L.length
  | 0, _ => by rw [hsU, Nat.sub_zero, Int32.zero_add]
  | m + 1, h => by
    have ih := hsU_L L m (by omega)
    rw [hsU, Int32.add_assoc, Int32.add_comm (kf L _ ^^^ vf L _), show L.length - (m + 1) = L.length - 1 - m by omega]
    rw [show L.length - m = (L.length - 1 - m) + 1 by omega, hsL] at ih
    exact ih
theorem hsU_all (L : Bk) : hsU L L.length = hsL L L.length := by
  have h := hsU_L L L.length (Nat.le_refl _)
  rw [Nat.sub_self] at h
  rw [← h]
  exact (Int32.add_zero _).symm
def sp_errors (S : St) : Nat × Int32 × St := (0, 0, S)
theorem i64_neg2 {x : Int32} (h : x < 0) : -(Int32.toInt64 x) = lN x.toInt.natAbs := by
  rw [(i64_neg h).1, l_neg_neg]
theorem ndg_c1 {n k : Nat} (h : n / 10 ^ k < 10) (hk : k + 1 ≤ ndg n) : k + 1 = ndg n := by
  rcases Nat.lt_or_ge (k + 1) (ndg n) with q | q
  · have h2 := ndg_ge (by omega) q
    have h3 := (Nat.div_lt_iff_lt_mul (Nat.pos_of_ne_zero (by intro z; exact absurd z (Nat.pos_iff_ne_zero.mp (Nat.pow_pos (by decide)))))).mp h
    rw [Nat.pow_succ] at h2
    omega
  · omega
theorem ndg_c2 {n k : Nat} (h : 10 ≤ n / 10 ^ k) (hn : n < 10000000000) : k + 2 ≤ ndg n := by
  rcases Nat.lt_or_ge (k + 1) (ndg n) with q | q
  · omega
  · have h2 := ndg_lt n hn
    have h3 := Nat.lt_of_lt_of_le h2 (Nat.pow_le_pow_right (show 0 < 10 by decide) q)
    have h4 := (Nat.le_div_iff_mul_le (Nat.pow_pos (show 0 < 10 by decide))).mp h
    rw [Nat.pow_succ] at h3
    omega
set_option maxHeartbeats 4000000 in
set_option maxRecDepth 100000 in
theorem m_pour (l : Launch) (D : va_G) (cI cZ : ClassId) (d : Nat → Nat) (S : St) (th : Int32) (x y : Int32) (hI : Inv S) (hap : Ap d 9) : Met l yX5_pour (ws_ yX5_pour cX5_pour 5 (some .int)) (rmN 5) (va_Pc [.ref (d 0), .int x, .int y] (pz D [(cI, .int), (cZ, .boolean)] (fun H => MdAt D cI cZ d S th H))) (Wq (some (.int (sp_pour S x y).2.1)) (fun H => MdAt D cI cZ d (sp_pour S x y).2.2 (nI (sp_pour S x y).1) H) (Ao d 9)) 0 0 (Ao d 9) := by
  have hbd2 : S.2.1 ≤ 40 := hI.2.2.2.1
  have hCC : ∀ cu, cu < 3 → ∀ y, S.2.2.1 cu = some y → y.1 < 4 := fun cu hcu y hy => by have h := hI.2.2.2.2.1 cu hcu; rw [hy] at h; exact h.1
  rcases bkn_cases 4 (by decide) x with ⟨b, hb4, rfl, hbk⟩ | ⟨hbk, hno⟩
  · rcases bkn_cases 4 (by decide) y with ⟨o, ho4, rfl, hbo⟩ | ⟨hbo, hno⟩
    · have hN := hI.1 b hb4
      have hNo := hI.1 o ho4
      by_cases ho3 : o = 3
      · subst ho3
        have e9 : sp_pour S (nI (b)) (nI (3)) = (2, 0, S) := by simp [sp_pour, hbk, hbo]
        rw [e9]
        refine m_start (by decide) (Nat.le_of_ble_eq_true rfl) ?_
        intro p e s m below meth c hx hb hr hG hown hlocks hml hB ls hl
        have hl : lv_has ls 5 [(0, .ref (d 0)), (1, .int (nI (b))), (2, .int (nI (3)))] := hl
        obtain ⟨hB0, hK⟩ := hB
        have hS : va_S (Ao d 9) s.heap s.heap [] := va_S.rf
        refine lv_iload_n hx hb dX5_pour_0 rfl (lv_at hl 1 rfl) ?_
        refine k1_S hx hb hml hown hG cs_X5_68 (by have h := c5_isBook l D (nI (b)); rw [rch_in (by omega) (by decide)] at h; exact h) (by decide) (pzS (hK.sub (tys' := []) [] rfl) trivial) rfl hl.1 rfl (Nat.le_of_ble_eq_true rfl) dX5_pour_1 ⟨Nat.zero_le _, Nat.zero_le _⟩ rfl ?_
        refine x_ifb_eq (tgt := 14) hx hb dX5_pour_4 (by decide) (fun zc1 => False.elim (by first | exact absurd zc1 (by decide) | omega | (simp_all; done))) (fun zc1 => ?_)
        refine lv_iload_n hx hb dX5_pour_7 rfl (lv_at hl 2 rfl) ?_
        refine k1_S hx hb hml hown hG cs_X5_68 (by have h := c5_isBook l D (nI (3)); rw [rch_in (by omega) (by decide)] at h; exact h) (by decide) (pzS (hK.sub (tys' := []) [] rfl) trivial) rfl hl.1 rfl (Nat.le_of_ble_eq_true rfl) dX5_pour_8 ⟨Nat.zero_le _, Nat.zero_le _⟩ rfl ?_
        refine x_ifb_ne (tgt := 20) hx hb dX5_pour_11 (by decide) (fun zc2 => ?_) (fun zc2 => False.elim (by first | exact absurd zc2 (by decide) | omega | (simp_all; done)))
        refine lv_iload_n hx hb dX5_pour_20 rfl (lv_at hl 2 rfl) ?_
        refine lv_iconst (v := nI 3) hx hb dX5_pour_21 (by decide) ?_
        refine x_cmp_eq (tgt := 30) hx hb dX5_pour_22 (by decide) (by omega) (by omega) (fun zc3 => ?_) (fun zc3 => False.elim (by first | exact absurd zc3 (by decide) | omega | (simp_all; done)))
        refine lv_aload_n hx hb dX5_pour_30 rfl (lv_at hl 0 rfl) ?_
        refine lv_iconst (v := nI 2) hx hb dX5_pour_31 (by decide) ?_
        refine k2_V hx hb hml hown hG cs_X5_58 (c5_refuse l D cI cZ d S th 2 hap) (by decide) (pzV hK rfl hB0.rc hB0) rfl hl.1 rfl (Nat.le_of_ble_eq_true rfl) dX5_pour_32 ⟨Nat.zero_le _, Nat.zero_le _⟩ rfl hS (fun q h => h) (fun H locs hB0 hz hk hS => ?_)
        exact w_i (PB := (fun H => MdAt D cI cZ d S (nI 2) H)) rfl hB0 hS hx hb hr hlocks dX5_pour_35
      · by_cases hbo2 : b = o
        · skip
          have e9 : sp_pour S (nI (b)) (nI (o)) = (2, 0, S) := by unfold sp_pour; rw [hbk, hbo]; exact if_pos (Or.inr hbo2)
          rw [e9]
          refine m_start (by decide) (Nat.le_of_ble_eq_true rfl) ?_
          intro p e s m below meth c hx hb hr hG hown hlocks hml hB ls hl
          have hl : lv_has ls 5 [(0, .ref (d 0)), (1, .int (nI (b))), (2, .int (nI (o)))] := hl
          obtain ⟨hB0, hK⟩ := hB
          have hS : va_S (Ao d 9) s.heap s.heap [] := va_S.rf
          refine lv_iload_n hx hb dX5_pour_0 rfl (lv_at hl 1 rfl) ?_
          refine k1_S hx hb hml hown hG cs_X5_68 (by have h := c5_isBook l D (nI (b)); rw [rch_in (by omega) (by decide)] at h; exact h) (by decide) (pzS (hK.sub (tys' := []) [] rfl) trivial) rfl hl.1 rfl (Nat.le_of_ble_eq_true rfl) dX5_pour_1 ⟨Nat.zero_le _, Nat.zero_le _⟩ rfl ?_
          refine x_ifb_eq (tgt := 14) hx hb dX5_pour_4 (by decide) (fun zc1 => False.elim (by first | exact absurd zc1 (by decide) | omega | (simp_all; done))) (fun zc1 => ?_)
          refine lv_iload_n hx hb dX5_pour_7 rfl (lv_at hl 2 rfl) ?_
          refine k1_S hx hb hml hown hG cs_X5_68 (by have h := c5_isBook l D (nI (o)); rw [rch_in (by omega) (by decide)] at h; exact h) (by decide) (pzS (hK.sub (tys' := []) [] rfl) trivial) rfl hl.1 rfl (Nat.le_of_ble_eq_true rfl) dX5_pour_8 ⟨Nat.zero_le _, Nat.zero_le _⟩ rfl ?_
          refine x_ifb_ne (tgt := 20) hx hb dX5_pour_11 (by decide) (fun zc2 => ?_) (fun zc2 => False.elim (by first | exact absurd zc2 (by decide) | omega | (simp_all; done)))
          refine lv_iload_n hx hb dX5_pour_20 rfl (lv_at hl 2 rfl) ?_
          refine lv_iconst (v := nI 3) hx hb dX5_pour_21 (by decide) ?_
          refine x_cmp_eq (tgt := 30) hx hb dX5_pour_22 (by decide) (by omega) (by omega) (fun zc3 => False.elim (by first | omega | contradiction | exact absurd zc3 (m1_ne _ (by omega)) | exact absurd zc3 (by decide) | exact absurd (Eq.symm zc3) (m1_ne _ (by omega)) | (simp_all; done))) (fun zc3 => ?_)
          refine lv_iload_n hx hb dX5_pour_25 rfl (lv_at hl 1 rfl) ?_
          refine lv_iload_n hx hb dX5_pour_26 rfl (lv_at hl 2 rfl) ?_
          refine x_cmp_ne (tgt := 36) hx hb dX5_pour_27 (by decide) (by omega) (by omega) (fun zc4 => False.elim (by first | omega | contradiction | exact absurd zc4 (m1_ne _ (by omega)) | exact absurd zc4 (by decide) | exact absurd (Eq.symm zc4) (m1_ne _ (by omega)) | (simp_all; done))) (fun zc4 => ?_)
          refine lv_aload_n hx hb dX5_pour_30 rfl (lv_at hl 0 rfl) ?_
          refine lv_iconst (v := nI 2) hx hb dX5_pour_31 (by decide) ?_
          refine k2_V hx hb hml hown hG cs_X5_58 (c5_refuse l D cI cZ d S th 2 hap) (by decide) (pzV hK rfl hB0.rc hB0) rfl hl.1 rfl (Nat.le_of_ble_eq_true rfl) dX5_pour_32 ⟨Nat.zero_le _, Nat.zero_le _⟩ rfl hS (fun q h => h) (fun H locs hB0 hz hk hS => ?_)
          exact w_i (PB := (fun H => MdAt D cI cZ d S (nI 2) H)) rfl hB0 hS hx hb hr hlocks dX5_pour_35
        · by_cases ho2 : o = 2
          · skip
            have e9 : sp_pour S (nI (b)) (nI (o)) = (0, nI (stF (lgO o) S.2.1 (S.1 o) (S.1 b) (S.1 b).length).length, clB (upB S o (stF (lgO o) S.2.1 (S.1 o) (S.1 b) (S.1 b).length)) o (-1)) := by unfold sp_pour; rw [hbk, hbo]; exact (if_neg (by omega)).trans (if_neg (fun z => z.1 ho2))
            rw [e9]
            refine m_start (by decide) (Nat.le_of_ble_eq_true rfl) ?_
            intro p e s m below meth c hx hb hr hG hown hlocks hml hB ls hl
            have hl : lv_has ls 5 [(0, .ref (d 0)), (1, .int (nI (b))), (2, .int (nI (o)))] := hl
            obtain ⟨hB0, hK⟩ := hB
            have hS : va_S (Ao d 9) s.heap s.heap [] := va_S.rf
            have hcm0 := cms_le (S.1 b) (S.1 o) (S.1 b).length
            refine lv_iload_n hx hb dX5_pour_0 rfl (lv_at hl 1 rfl) ?_
            refine k1_S hx hb hml hown hG cs_X5_68 (by have h := c5_isBook l D (nI (b)); rw [rch_in (by omega) (by decide)] at h; exact h) (by decide) (pzS (hK.sub (tys' := []) [] rfl) trivial) rfl hl.1 rfl (Nat.le_of_ble_eq_true rfl) dX5_pour_1 ⟨Nat.zero_le _, Nat.zero_le _⟩ rfl ?_
            refine x_ifb_eq (tgt := 14) hx hb dX5_pour_4 (by decide) (fun zc1 => False.elim (by first | exact absurd zc1 (by decide) | omega | (simp_all; done))) (fun zc1 => ?_)
            refine lv_iload_n hx hb dX5_pour_7 rfl (lv_at hl 2 rfl) ?_
            refine k1_S hx hb hml hown hG cs_X5_68 (by have h := c5_isBook l D (nI (o)); rw [rch_in (by omega) (by decide)] at h; exact h) (by decide) (pzS (hK.sub (tys' := []) [] rfl) trivial) rfl hl.1 rfl (Nat.le_of_ble_eq_true rfl) dX5_pour_8 ⟨Nat.zero_le _, Nat.zero_le _⟩ rfl ?_
            refine x_ifb_ne (tgt := 20) hx hb dX5_pour_11 (by decide) (fun zc2 => ?_) (fun zc2 => False.elim (by first | exact absurd zc2 (by decide) | omega | (simp_all; done)))
            refine lv_iload_n hx hb dX5_pour_20 rfl (lv_at hl 2 rfl) ?_
            refine lv_iconst (v := nI 3) hx hb dX5_pour_21 (by decide) ?_
            refine x_cmp_eq (tgt := 30) hx hb dX5_pour_22 (by decide) (by omega) (by omega) (fun zc3 => False.elim (by first | omega | contradiction | exact absurd zc3 (m1_ne _ (by omega)) | exact absurd zc3 (by decide) | exact absurd (Eq.symm zc3) (m1_ne _ (by omega)) | (simp_all; done))) (fun zc3 => ?_)
            refine lv_iload_n hx hb dX5_pour_25 rfl (lv_at hl 1 rfl) ?_
            refine lv_iload_n hx hb dX5_pour_26 rfl (lv_at hl 2 rfl) ?_
            refine x_cmp_ne (tgt := 36) hx hb dX5_pour_27 (by decide) (by omega) (by omega) (fun zc4 => ?_) (fun zc4 => False.elim (by first | omega | contradiction | exact absurd zc4 (m1_ne _ (by omega)) | exact absurd zc4 (by decide) | exact absurd (Eq.symm zc4) (m1_ne _ (by omega)) | (simp_all; done)))
            obtain ⟨K, V, sz, cb, ck, ca, it, ou, hP, hMB, hMC, hMO⟩ := id hB0
            have hP : va_P D vwCl [(d 0, .inr (5, [.ref (d 1), .ref (d 2), .ref (d 3), .int (nI (S.2.1)), .int (th), .ref (d 4), .ref (d 5), .ref (d 6), .ref (d 7), .ref (d 8), .int (nI (S.2.2.2.length))])), (d 1, .inl (cI, (804, .inl K))), (d 2, .inl (cI, (804, .inl V))), (d 3, .inl (cI, (4, .inl sz))), (d 4, .inl (cI, (3, .inl cb))), (d 5, .inl (cI, (3, .inl ck))), (d 6, .inl (cI, (3, .inl ca))), (d 7, .inl (cZ, (3, .inl it))), (d 8, .inl (cI, (6000, .inl ou)))] s.heap := hP
            have hD : va_D (Ao d 9) [(d 0, .inr (5, [.ref (d 1), .ref (d 2), .ref (d 3), .int (nI (S.2.1)), .int (th), .ref (d 4), .ref (d 5), .ref (d 6), .ref (d 7), .ref (d 8), .int (nI (S.2.2.2.length))])), (d 1, .inl (cI, (804, .inl K))), (d 2, .inl (cI, (804, .inl V))), (d 3, .inl (cI, (4, .inl sz))), (d 4, .inl (cI, (3, .inl cb))), (d 5, .inl (cI, (3, .inl ck))), (d 6, .inl (cI, (3, .inl ca))), (d 7, .inl (cZ, (3, .inl it))), (d 8, .inl (cI, (6000, .inl ou)))] := hap.D9
            refine lv_iconst (v := nI 0) hx hb dX5_pour_36 (by decide) ?_
            refine lv_istore_n (lv' := [(3, .int (nI (0))), (0, .ref (d 0)), (1, .int (nI (b))), (2, .int (nI (o)))]) hx hb dX5_pour_37 rfl hl (by decide) rfl (fun ls hl => ?_)
            refine lv_iconst (v := nI 0) hx hb dX5_pour_38 (by decide) ?_
            refine lv_istore (lv' := [(4, .int (nI (0))), (3, .int (nI (0))), (0, .ref (d 0)), (1, .int (nI (b))), (2, .int (nI (o)))]) hx hb dX5_pour_39 hl (by decide) rfl (fun ls hl => ?_)
            suffices KK : ∀ (n i : Nat), (S.1 b).length < i + n → i ≤ (S.1 b).length → ∀ ls : Array Slot, lv_has ls 5 [(4, .int (nI (i))), (3, .int (nI (cms (S.1 b) (S.1 o) i))), (0, .ref (d 0)), (1, .int (nI (b))), (2, .int (nI (o)))] → W p l e (rmN 5) s m [.ref (d 0), .int (nI (b)), .int (nI (o))].toArray below meth c s.heap [] 0 0 (MQ below (Wq (some (.int (nI (stF (lgO o) S.2.1 (S.1 o) (S.1 b) (S.1 b).length).length))) (fun H => MdAt D cI cZ d (clB (upB S o (stF (lgO o) S.2.1 (S.1 o) (S.1 b) (S.1 b).length)) o (-1)) (nI 0) H) (Ao d 9)) [.ref (d 0), .int (nI (b)), .int (nI (o))].toArray s 0 0 (Ao d 9)) (F0 m 41 ls []) from KK ((S.1 b).length + 1) 0 (by omega) (by omega) ls (lv_sub hl [0, 1, 2, 3, 4] rfl)
            clear hl
            intro n
            induction n with
            | zero => intro i h1 h2; omega
            | succ n ih =>
              intro i h1 h2 ls hl
              refine lv_iload hx hb dX5_pour_41 (lv_at hl 0 rfl) ?_
              refine lv_aload_n hx hb dX5_pour_43 rfl (lv_at hl 2 rfl) ?_
              refine gf_X5_16 hx hb hG hown hK hP 0 rfl rfl dX5_pour_44 ?_
              refine lv_iload_n hx hb dX5_pour_47 rfl (lv_at hl 3 rfl) ?_
              refine x_iald hx hb hK hP 3 0 rfl rfl (by omega) (by decide) dX5_pour_48 ?_
              rw [(hMB (b) (by omega)).1]
              refine x_cmp_ge (tgt := 88) hx hb dX5_pour_49 (by decide) (by omega) (by omega) (fun c1 => ?_) (fun c1 => ?_)
              · have ei : i = (S.1 b).length := by omega
                subst ei
                refine lv_iload_n hx hb dX5_pour_88 rfl (lv_at hl 4 rfl) ?_
                refine k1_S hx hb hml hown hG cs_X5_86 (by have h := c5_isPlain l D (nI (o)); rw [show rch 2 (nI o) = false from rch_hi (nI_le (by omega) (by omega))] at h; exact h) (by decide) (pzS (hK.sub (tys' := []) [] rfl) trivial) rfl hl.1 rfl (Nat.le_of_ble_eq_true rfl) dX5_pour_89 ⟨Nat.zero_le _, Nat.zero_le _⟩ rfl ?_
                refine x_ifb_eq (tgt := 115) hx hb dX5_pour_92 (by decide) (fun zc5 => ?_) (fun zc5 => False.elim (by first | exact absurd zc5 (by decide) | omega | (simp_all; done)))
                refine lv_iconst (v := nI 0) hx hb dX5_pour_115 (by decide) ?_
                refine lv_istore (lv' := [(4, .int (nI (0))), (3, .int (nI (cms (S.1 b) (S.1 o) ((S.1 b).length)))), (0, .ref (d 0)), (1, .int (nI (b))), (2, .int (nI (o)))]) hx hb dX5_pour_116 hl (by decide) rfl (fun ls hl => ?_)
                have hfl : ∀ i, i ≤ (S.1 b).length → (stF (lgO o) S.2.1 (S.1 o) (S.1 b) i).length ≤ 200 := fun i hi => by
                  rw [ho2]
                  have h := stF_len_b (bd := S.2.1) (L := S.1 2) (S.1 b) hI.2.1 i
                  exact Nat.le_trans h (by omega)
                suffices KK2 : ∀ (n i : Nat), (S.1 b).length < i + n → i ≤ (S.1 b).length → ∀ (H : Heap) (locs : List Loc), MdAt D cI cZ d (upB S o (stF (lgO o) S.2.1 (S.1 o) (S.1 b) i)) th H → va_S (Ao d 9) s.heap H locs → ∀ ls : Array Slot, lv_has ls 5 [(4, .int (nI (i))), (3, .int (nI (cms (S.1 b) (S.1 o) (S.1 b).length))), (0, .ref (d 0)), (1, .int (nI (b))), (2, .int (nI (o)))] → W p l e (rmN 5) s m [.ref (d 0), .int (nI (b)), .int (nI (o))].toArray below meth c H locs 0 0 (MQ below (Wq (some (.int (nI (stF (lgO o) S.2.1 (S.1 o) (S.1 b) (S.1 b).length).length))) (fun H => MdAt D cI cZ d (clB (upB S o (stF (lgO o) S.2.1 (S.1 o) (S.1 b) (S.1 b).length)) o (-1)) (nI 0) H) (Ao d 9)) [.ref (d 0), .int (nI (b)), .int (nI (o))].toArray s 0 0 (Ao d 9)) (F0 m 118 ls []) from KK2 ((S.1 b).length + 1) 0 (by omega) (by omega) s.heap [] (by rw [show (upB S o (stF (lgO o) S.2.1 (S.1 o) (S.1 b) 0)) = S from upB_id S o]; exact hB0) hS ls (lv_sub hl [0, 1, 2, 3, 4] rfl)
                clear ih hB0 hP hMB hMC hMO hD hS hl
                intro n2
                induction n2 with
                | zero => intro i h1 h2; omega
                | succ n2 ih =>
                  intro i h1 h2 H locs hB0 hS ls hl
                  refine lv_iload hx hb dX5_pour_118 (lv_at hl 0 rfl) ?_
                  refine lv_aload_n hx hb dX5_pour_120 rfl (lv_at hl 2 rfl) ?_
                  obtain ⟨K, V, sz, cb, ck, ca, it, ou, hP, hMB, hMC, hMO⟩ := id hB0
                  have hP : va_P D vwCl [(d 0, .inr (5, [.ref (d 1), .ref (d 2), .ref (d 3), .int (nI (S.2.1)), .int (th), .ref (d 4), .ref (d 5), .ref (d 6), .ref (d 7), .ref (d 8), .int (nI (S.2.2.2.length))])), (d 1, .inl (cI, (804, .inl K))), (d 2, .inl (cI, (804, .inl V))), (d 3, .inl (cI, (4, .inl sz))), (d 4, .inl (cI, (3, .inl cb))), (d 5, .inl (cI, (3, .inl ck))), (d 6, .inl (cI, (3, .inl ca))), (d 7, .inl (cZ, (3, .inl it))), (d 8, .inl (cI, (6000, .inl ou)))] H := hP
                  have hD : va_D (Ao d 9) [(d 0, .inr (5, [.ref (d 1), .ref (d 2), .ref (d 3), .int (nI (S.2.1)), .int (th), .ref (d 4), .ref (d 5), .ref (d 6), .ref (d 7), .ref (d 8), .int (nI (S.2.2.2.length))])), (d 1, .inl (cI, (804, .inl K))), (d 2, .inl (cI, (804, .inl V))), (d 3, .inl (cI, (4, .inl sz))), (d 4, .inl (cI, (3, .inl cb))), (d 5, .inl (cI, (3, .inl ck))), (d 6, .inl (cI, (3, .inl ca))), (d 7, .inl (cZ, (3, .inl it))), (d 8, .inl (cI, (6000, .inl ou)))] := hap.D9
                  refine gf_X5_16 hx hb hG hown hK hP 0 rfl rfl dX5_pour_121 ?_
                  refine lv_iload_n hx hb dX5_pour_124 rfl (lv_at hl 3 rfl) ?_
                  refine x_iald hx hb hK hP 3 0 rfl rfl (by omega) (by decide) dX5_pour_125 ?_
                  rw [show sz b = nI (S.1 b).length from by have h := (hMB b (by omega)).1; rw [upB_ne S _ hbo2] at h; exact h]
                  refine x_cmp_ge (tgt := 166) hx hb dX5_pour_126 (by decide) (by omega) (by omega) (fun c2 => ?_) (fun c2 => ?_)
                  · have ei : i = (S.1 b).length := by omega
                    rw [ei] at hMB hB0
                    refine lv_aload_n hx hb dX5_pour_166 rfl (lv_at hl 2 rfl) ?_
                    refine lv_iload_n hx hb dX5_pour_167 rfl (lv_at hl 4 rfl) ?_
                    refine lv_iconst (v := (-1)) hx hb dX5_pour_168 (by decide) ?_
                    refine k2_V hx hb hml hown hG cs_X5_62 (c5_closes l D cI cZ d (upB S o (stF (lgO o) S.2.1 (S.1 o) (S.1 b) ((S.1 b).length))) th o (-1) (by omega) hCC hap) (by decide) (pzV hK rfl hB0.rc hB0) rfl hl.1 rfl (Nat.le_of_ble_eq_true rfl) dX5_pour_169 ⟨Nat.zero_le _, Nat.zero_le _⟩ rfl hS (fun q h => h) (fun H locs hB0 hz hk hS => ?_)
                    refine lv_aload_n hx hb dX5_pour_172 rfl (lv_at hl 2 rfl) ?_
                    refine lv_aload_n hx hb dX5_pour_173 rfl (lv_at hl 2 rfl) ?_
                    obtain ⟨K, V, sz, cb, ck, ca, it, ou, hP, hMB, hMC, hMO⟩ := id hB0
                    have hMB : MdB (upB S o (stF (lgO o) S.2.1 (S.1 o) (S.1 b) ((S.1 b).length))).1 K V sz := hMB
                    have hP : va_P D vwCl [(d 0, .inr (5, [.ref (d 1), .ref (d 2), .ref (d 3), .int (nI (S.2.1)), .int (th), .ref (d 4), .ref (d 5), .ref (d 6), .ref (d 7), .ref (d 8), .int (nI (S.2.2.2.length))])), (d 1, .inl (cI, (804, .inl K))), (d 2, .inl (cI, (804, .inl V))), (d 3, .inl (cI, (4, .inl sz))), (d 4, .inl (cI, (3, .inl cb))), (d 5, .inl (cI, (3, .inl ck))), (d 6, .inl (cI, (3, .inl ca))), (d 7, .inl (cZ, (3, .inl it))), (d 8, .inl (cI, (6000, .inl ou)))] H := hP
                    have hD : va_D (Ao d 9) [(d 0, .inr (5, [.ref (d 1), .ref (d 2), .ref (d 3), .int (nI (S.2.1)), .int (th), .ref (d 4), .ref (d 5), .ref (d 6), .ref (d 7), .ref (d 8), .int (nI (S.2.2.2.length))])), (d 1, .inl (cI, (804, .inl K))), (d 2, .inl (cI, (804, .inl V))), (d 3, .inl (cI, (4, .inl sz))), (d 4, .inl (cI, (3, .inl cb))), (d 5, .inl (cI, (3, .inl ck))), (d 6, .inl (cI, (3, .inl ca))), (d 7, .inl (cZ, (3, .inl it))), (d 8, .inl (cI, (6000, .inl ou)))] := hap.D9
                    refine gf_X5_16 hx hb hG hown hK hP 0 rfl rfl dX5_pour_174 ?_
                    refine lv_iload_n hx hb dX5_pour_177 rfl (lv_at hl 4 rfl) ?_
                    refine x_iald hx hb hK hP 3 0 rfl rfl (by omega) (by decide) dX5_pour_178 ?_
                    rw [(hMB (o) (by omega)).1]
                    refine k2_V hx hb hml hown hG cs_X5_65 (c5_told l D cI cZ d (clB (upB S o (stF (lgO o) S.2.1 (S.1 o) (S.1 b) ((S.1 b).length))) o (-1)) th (nI (((upB S o (stF (lgO o) S.2.1 (S.1 o) (S.1 b) ((S.1 b).length))).1 o).length)) hap) (by decide) (pzV hK rfl hB0.rc hB0) rfl hl.1 rfl (Nat.le_of_ble_eq_true rfl) dX5_pour_179 ⟨Nat.zero_le _, Nat.zero_le _⟩ rfl hS (fun q h => h) (fun H locs hB0 hz hk hS => ?_)
                    exact w_i (PB := (fun H => MdAt D cI cZ d (clB (upB S o (stF (lgO o) S.2.1 (S.1 o) (S.1 b) (S.1 b).length)) o (-1)) (nI 0) H)) (by rw [upB_at]) hB0 hS hx hb hr hlocks dX5_pour_182
                  · refine lv_aload_n hx hb dX5_pour_129 rfl (lv_at hl 2 rfl) ?_
                    refine lv_iload_n hx hb dX5_pour_130 rfl (lv_at hl 4 rfl) ?_
                    refine lv_aload_n hx hb dX5_pour_131 rfl (lv_at hl 2 rfl) ?_
                    refine gf_X5_7 hx hb hG hown hK hP 0 rfl rfl dX5_pour_132 ?_
                    refine lv_sipush (v := nI 201) hx hb dX5_pour_135 (by decide) ?_
                    refine lv_iload_n hx hb dX5_pour_138 rfl (lv_at hl 3 rfl) ?_
                    refine x_imul (v := nI (201 * b)) hx hb dX5_pour_139 (pk_mul _ _) ?_
                    refine lv_iload hx hb dX5_pour_140 (lv_at hl 0 rfl) ?_
                    refine x_iadd (v := nI ((201 * b) + i)) hx hb dX5_pour_142 (nI_add _ _) ?_
                    refine x_iald hx hb hK hP 1 0 rfl rfl (by omega) (by decide) dX5_pour_143 ?_
                    rw [show K ((201 * b) + i) = kf (S.1 b) i from by have h := ((hMB b (by omega)).2.2 i (by rw [upB_ne S _ hbo2]; omega)).1; rw [upB_ne S _ hbo2] at h; exact h]
                    refine lv_aload_n hx hb dX5_pour_144 rfl (lv_at hl 2 rfl) ?_
                    refine gf_X5_13 hx hb hG hown hK hP 0 rfl rfl dX5_pour_145 ?_
                    refine lv_sipush (v := nI 201) hx hb dX5_pour_148 (by decide) ?_
                    refine lv_iload_n hx hb dX5_pour_151 rfl (lv_at hl 3 rfl) ?_
                    refine x_imul (v := nI (201 * b)) hx hb dX5_pour_152 (pk_mul _ _) ?_
                    refine lv_iload hx hb dX5_pour_153 (lv_at hl 0 rfl) ?_
                    refine x_iadd (v := nI ((201 * b) + i)) hx hb dX5_pour_155 (nI_add _ _) ?_
                    refine x_iald hx hb hK hP 2 0 rfl rfl (by omega) (by decide) dX5_pour_156 ?_
                    rw [show V ((201 * b) + i) = vf (S.1 b) i from by have h := ((hMB b (by omega)).2.2 i (by rw [upB_ne S _ hbo2]; omega)).2; rw [upB_ne S _ hbo2] at h; exact h]
                    refine k2_V hx hb hml hown hG cs_X5_79 (c5_puts l D cI cZ d (upB S o (stF (lgO o) S.2.1 (S.1 o) (S.1 b) i)) th o (kf (S.1 b) i) (vf (S.1 b) i) (by omega) hap (by rw [upB_at]; exact hfl i (by omega)) (by show S.2.1 ≤ 200; omega)) (by decide) (pzV hK rfl hB0.rc hB0) rfl hl.1 rfl (Nat.le_of_ble_eq_true rfl) dX5_pour_157 ⟨Nat.zero_le _, Nat.zero_le _⟩ rfl hS (fun q h => h) (fun H locs hB0 hz hk hS => ?_)
                    have hB0 : MdAt D cI cZ d (upB S o (stF (lgO o) S.2.1 (S.1 o) (S.1 b) (i + 1))) th H := by rw [upB_up, upB_at] at hB0; exact hB0
                    refine x_iinc (k := 0) (lv' := [(4, .int (nI (i + 1))), (3, .int (nI (cms (S.1 b) (S.1 o) (S.1 b).length))), (0, .ref (d 0)), (1, .int (nI (b))), (2, .int (nI (o)))]) hx hb dX5_pour_160 hl rfl (by decide) rfl (fun ls hl => ?_)
                    refine lv_goto (tgt := 118) hx hb dX5_pour_163 (by decide) ?_
                    exact ih (i + 1) (by omega) (by omega) H locs hB0 hS ls (lv_sub hl [0, 1, 2, 3, 4] rfl)
              · have hcm := cms_le (S.1 b) (S.1 o) i
                cases hf : fx (S.1 o) (kf (S.1 b) i) with
                | none =>
                  refine lv_iload_n hx hb dX5_pour_52 rfl (lv_at hl 1 rfl) ?_
                  refine lv_aload_n hx hb dX5_pour_53 rfl (lv_at hl 2 rfl) ?_
                  refine lv_iload_n hx hb dX5_pour_54 rfl (lv_at hl 4 rfl) ?_
                  refine lv_aload_n hx hb dX5_pour_55 rfl (lv_at hl 2 rfl) ?_
                  refine gf_X5_7 hx hb hG hown hK hP 0 rfl rfl dX5_pour_56 ?_
                  refine lv_sipush (v := nI 201) hx hb dX5_pour_59 (by decide) ?_
                  refine lv_iload_n hx hb dX5_pour_62 rfl (lv_at hl 3 rfl) ?_
                  refine x_imul (v := nI (201 * b)) hx hb dX5_pour_63 (pk_mul _ _) ?_
                  refine lv_iload hx hb dX5_pour_64 (lv_at hl 0 rfl) ?_
                  refine x_iadd (v := nI ((201 * b) + i)) hx hb dX5_pour_66 (nI_add _ _) ?_
                  refine x_iald hx hb hK hP 1 0 rfl rfl (by omega) (by decide) dX5_pour_67 ?_
                  rw [show K ((201 * b) + i) = kf (S.1 b) i from ((hMB b (by omega)).2.2 i (by omega)).1]
                  refine k1_V hx hb hml hown hG cs_X5_50 (by have h := c5_place l D cI cZ d S th o (kf (S.1 b) i) (by omega); rw [hf] at h; exact h) (by decide) (pzV hK rfl hB0.rc hB0) rfl hl.1 rfl (Nat.le_of_ble_eq_true rfl) dX5_pour_68 ⟨Nat.zero_le _, Nat.zero_le _⟩ rfl ?_
                  refine lv_iconst (v := (-1)) hx hb dX5_pour_71 (by decide) ?_
                  refine lv_icmp_ne (tgt := 79) hx hb dX5_pour_72 (by decide) (fun zc6 => False.elim (by first | exact absurd zc6 (by decide) | omega | (simp_all; done))) (fun zc6 => ?_)
                  refine lv_iconst (v := nI 1) hx hb dX5_pour_75 (by decide) ?_
                  refine lv_goto (tgt := 80) hx hb dX5_pour_76 (by decide) ?_
                  refine x_iadd (v := nI ((cms (S.1 b) (S.1 o) i) + 1)) hx hb dX5_pour_80 (nI_add _ _) ?_
                  refine lv_istore_n (lv' := [(3, .int (nI ((cms (S.1 b) (S.1 o) i) + 1))), (4, .int (nI (i))), (0, .ref (d 0)), (1, .int (nI (b))), (2, .int (nI (o)))]) hx hb dX5_pour_81 rfl hl (by decide) rfl (fun ls hl => ?_)
                  refine x_iinc (k := 1) (lv' := [(4, .int (nI (i + 1))), (3, .int (nI ((cms (S.1 b) (S.1 o) i) + 1))), (0, .ref (d 0)), (1, .int (nI (b))), (2, .int (nI (o)))]) hx hb dX5_pour_82 hl rfl (by decide) rfl (fun ls hl => ?_)
                  refine lv_goto (tgt := 41) hx hb dX5_pour_85 (by decide) ?_
                  have e1 : cms (S.1 b) (S.1 o) (i + 1) = cms (S.1 b) (S.1 o) i + 1 := by rw [cms, hf]; rfl
                  exact ih (i + 1) (by omega) (by omega) ls (by rw [e1]; exact (lv_sub hl [0, 1, 2, 3, 4] rfl))
                | some j =>
                  have hj := (fx_some hf).1
                  skip
                  refine lv_iload_n hx hb dX5_pour_52 rfl (lv_at hl 1 rfl) ?_
                  refine lv_aload_n hx hb dX5_pour_53 rfl (lv_at hl 2 rfl) ?_
                  refine lv_iload_n hx hb dX5_pour_54 rfl (lv_at hl 4 rfl) ?_
                  refine lv_aload_n hx hb dX5_pour_55 rfl (lv_at hl 2 rfl) ?_
                  refine gf_X5_7 hx hb hG hown hK hP 0 rfl rfl dX5_pour_56 ?_
                  refine lv_sipush (v := nI 201) hx hb dX5_pour_59 (by decide) ?_
                  refine lv_iload_n hx hb dX5_pour_62 rfl (lv_at hl 3 rfl) ?_
                  refine x_imul (v := nI (201 * b)) hx hb dX5_pour_63 (pk_mul _ _) ?_
                  refine lv_iload hx hb dX5_pour_64 (lv_at hl 0 rfl) ?_
                  refine x_iadd (v := nI ((201 * b) + i)) hx hb dX5_pour_66 (nI_add _ _) ?_
                  refine x_iald hx hb hK hP 1 0 rfl rfl (by omega) (by decide) dX5_pour_67 ?_
                  rw [show K ((201 * b) + i) = kf (S.1 b) i from ((hMB b (by omega)).2.2 i (by omega)).1]
                  refine k1_V hx hb hml hown hG cs_X5_50 (by have h := c5_place l D cI cZ d S th o (kf (S.1 b) i) (by omega); rw [hf] at h; exact h) (by decide) (pzV hK rfl hB0.rc hB0) rfl hl.1 rfl (Nat.le_of_ble_eq_true rfl) dX5_pour_68 ⟨Nat.zero_le _, Nat.zero_le _⟩ rfl ?_
                  refine lv_iconst (v := (-1)) hx hb dX5_pour_71 (by decide) ?_
                  refine lv_icmp_ne (tgt := 79) hx hb dX5_pour_72 (by decide) (fun zc7 => ?_) (fun zc7 => False.elim (by first | omega | contradiction | exact absurd zc7 (m1_ne _ (by omega)) | exact absurd zc7 (by decide) | exact absurd (Eq.symm zc7) (m1_ne _ (by omega)) | (simp_all; done)))
                  refine lv_iconst (v := nI 0) hx hb dX5_pour_79 (by decide) ?_
                  refine x_iadd (v := nI ((cms (S.1 b) (S.1 o) i) + 0)) hx hb dX5_pour_80 (nI_add _ _) ?_
                  refine lv_istore_n (lv' := [(3, .int (nI ((cms (S.1 b) (S.1 o) i) + 0))), (4, .int (nI (i))), (0, .ref (d 0)), (1, .int (nI (b))), (2, .int (nI (o)))]) hx hb dX5_pour_81 rfl hl (by decide) rfl (fun ls hl => ?_)
                  refine x_iinc (k := 1) (lv' := [(4, .int (nI (i + 1))), (3, .int (nI ((cms (S.1 b) (S.1 o) i) + 0))), (0, .ref (d 0)), (1, .int (nI (b))), (2, .int (nI (o)))]) hx hb dX5_pour_82 hl rfl (by decide) rfl (fun ls hl => ?_)
                  refine lv_goto (tgt := 41) hx hb dX5_pour_85 (by decide) ?_
                  have e1 : cms (S.1 b) (S.1 o) (i + 1) = cms (S.1 b) (S.1 o) i := by rw [cms, hf]; rfl
                  exact ih (i + 1) (by omega) (by omega) ls (by rw [e1]; exact (lv_sub hl [0, 1, 2, 3, 4] rfl))
          · by_cases hov : 200 < (S.1 o).length + cms (S.1 b) (S.1 o) (S.1 b).length
            · skip
              have e9 : sp_pour S (nI (b)) (nI (o)) = (3, 0, S) := by unfold sp_pour; rw [hbk, hbo]; exact (if_neg (by omega)).trans (if_pos ⟨ho2, hov⟩)
              rw [e9]
              refine m_start (by decide) (Nat.le_of_ble_eq_true rfl) ?_
              intro p e s m below meth c hx hb hr hG hown hlocks hml hB ls hl
              have hl : lv_has ls 5 [(0, .ref (d 0)), (1, .int (nI (b))), (2, .int (nI (o)))] := hl
              obtain ⟨hB0, hK⟩ := hB
              have hS : va_S (Ao d 9) s.heap s.heap [] := va_S.rf
              have hcm0 := cms_le (S.1 b) (S.1 o) (S.1 b).length
              refine lv_iload_n hx hb dX5_pour_0 rfl (lv_at hl 1 rfl) ?_
              refine k1_S hx hb hml hown hG cs_X5_68 (by have h := c5_isBook l D (nI (b)); rw [rch_in (by omega) (by decide)] at h; exact h) (by decide) (pzS (hK.sub (tys' := []) [] rfl) trivial) rfl hl.1 rfl (Nat.le_of_ble_eq_true rfl) dX5_pour_1 ⟨Nat.zero_le _, Nat.zero_le _⟩ rfl ?_
              refine x_ifb_eq (tgt := 14) hx hb dX5_pour_4 (by decide) (fun zc1 => False.elim (by first | exact absurd zc1 (by decide) | omega | (simp_all; done))) (fun zc1 => ?_)
              refine lv_iload_n hx hb dX5_pour_7 rfl (lv_at hl 2 rfl) ?_
              refine k1_S hx hb hml hown hG cs_X5_68 (by have h := c5_isBook l D (nI (o)); rw [rch_in (by omega) (by decide)] at h; exact h) (by decide) (pzS (hK.sub (tys' := []) [] rfl) trivial) rfl hl.1 rfl (Nat.le_of_ble_eq_true rfl) dX5_pour_8 ⟨Nat.zero_le _, Nat.zero_le _⟩ rfl ?_
              refine x_ifb_ne (tgt := 20) hx hb dX5_pour_11 (by decide) (fun zc2 => ?_) (fun zc2 => False.elim (by first | exact absurd zc2 (by decide) | omega | (simp_all; done)))
              refine lv_iload_n hx hb dX5_pour_20 rfl (lv_at hl 2 rfl) ?_
              refine lv_iconst (v := nI 3) hx hb dX5_pour_21 (by decide) ?_
              refine x_cmp_eq (tgt := 30) hx hb dX5_pour_22 (by decide) (by omega) (by omega) (fun zc3 => False.elim (by first | omega | contradiction | exact absurd zc3 (m1_ne _ (by omega)) | exact absurd zc3 (by decide) | exact absurd (Eq.symm zc3) (m1_ne _ (by omega)) | (simp_all; done))) (fun zc3 => ?_)
              refine lv_iload_n hx hb dX5_pour_25 rfl (lv_at hl 1 rfl) ?_
              refine lv_iload_n hx hb dX5_pour_26 rfl (lv_at hl 2 rfl) ?_
              refine x_cmp_ne (tgt := 36) hx hb dX5_pour_27 (by decide) (by omega) (by omega) (fun zc4 => ?_) (fun zc4 => False.elim (by first | omega | contradiction | exact absurd zc4 (m1_ne _ (by omega)) | exact absurd zc4 (by decide) | exact absurd (Eq.symm zc4) (m1_ne _ (by omega)) | (simp_all; done)))
              obtain ⟨K, V, sz, cb, ck, ca, it, ou, hP, hMB, hMC, hMO⟩ := id hB0
              have hP : va_P D vwCl [(d 0, .inr (5, [.ref (d 1), .ref (d 2), .ref (d 3), .int (nI (S.2.1)), .int (th), .ref (d 4), .ref (d 5), .ref (d 6), .ref (d 7), .ref (d 8), .int (nI (S.2.2.2.length))])), (d 1, .inl (cI, (804, .inl K))), (d 2, .inl (cI, (804, .inl V))), (d 3, .inl (cI, (4, .inl sz))), (d 4, .inl (cI, (3, .inl cb))), (d 5, .inl (cI, (3, .inl ck))), (d 6, .inl (cI, (3, .inl ca))), (d 7, .inl (cZ, (3, .inl it))), (d 8, .inl (cI, (6000, .inl ou)))] s.heap := hP
              have hD : va_D (Ao d 9) [(d 0, .inr (5, [.ref (d 1), .ref (d 2), .ref (d 3), .int (nI (S.2.1)), .int (th), .ref (d 4), .ref (d 5), .ref (d 6), .ref (d 7), .ref (d 8), .int (nI (S.2.2.2.length))])), (d 1, .inl (cI, (804, .inl K))), (d 2, .inl (cI, (804, .inl V))), (d 3, .inl (cI, (4, .inl sz))), (d 4, .inl (cI, (3, .inl cb))), (d 5, .inl (cI, (3, .inl ck))), (d 6, .inl (cI, (3, .inl ca))), (d 7, .inl (cZ, (3, .inl it))), (d 8, .inl (cI, (6000, .inl ou)))] := hap.D9
              refine lv_iconst (v := nI 0) hx hb dX5_pour_36 (by decide) ?_
              refine lv_istore_n (lv' := [(3, .int (nI (0))), (0, .ref (d 0)), (1, .int (nI (b))), (2, .int (nI (o)))]) hx hb dX5_pour_37 rfl hl (by decide) rfl (fun ls hl => ?_)
              refine lv_iconst (v := nI 0) hx hb dX5_pour_38 (by decide) ?_
              refine lv_istore (lv' := [(4, .int (nI (0))), (3, .int (nI (0))), (0, .ref (d 0)), (1, .int (nI (b))), (2, .int (nI (o)))]) hx hb dX5_pour_39 hl (by decide) rfl (fun ls hl => ?_)
              suffices KK : ∀ (n i : Nat), (S.1 b).length < i + n → i ≤ (S.1 b).length → ∀ ls : Array Slot, lv_has ls 5 [(4, .int (nI (i))), (3, .int (nI (cms (S.1 b) (S.1 o) i))), (0, .ref (d 0)), (1, .int (nI (b))), (2, .int (nI (o)))] → W p l e (rmN 5) s m [.ref (d 0), .int (nI (b)), .int (nI (o))].toArray below meth c s.heap [] 0 0 (MQ below (Wq (some (.int 0)) (fun H => MdAt D cI cZ d S (nI 3) H) (Ao d 9)) [.ref (d 0), .int (nI (b)), .int (nI (o))].toArray s 0 0 (Ao d 9)) (F0 m 41 ls []) from KK ((S.1 b).length + 1) 0 (by omega) (by omega) ls (lv_sub hl [0, 1, 2, 3, 4] rfl)
              clear hl
              intro n
              induction n with
              | zero => intro i h1 h2; omega
              | succ n ih =>
                intro i h1 h2 ls hl
                refine lv_iload hx hb dX5_pour_41 (lv_at hl 0 rfl) ?_
                refine lv_aload_n hx hb dX5_pour_43 rfl (lv_at hl 2 rfl) ?_
                refine gf_X5_16 hx hb hG hown hK hP 0 rfl rfl dX5_pour_44 ?_
                refine lv_iload_n hx hb dX5_pour_47 rfl (lv_at hl 3 rfl) ?_
                refine x_iald hx hb hK hP 3 0 rfl rfl (by omega) (by decide) dX5_pour_48 ?_
                rw [(hMB (b) (by omega)).1]
                refine x_cmp_ge (tgt := 88) hx hb dX5_pour_49 (by decide) (by omega) (by omega) (fun c1 => ?_) (fun c1 => ?_)
                · have ei : i = (S.1 b).length := by omega
                  subst ei
                  refine lv_iload_n hx hb dX5_pour_88 rfl (lv_at hl 4 rfl) ?_
                  refine k1_S hx hb hml hown hG cs_X5_86 (by have h := c5_isPlain l D (nI (o)); rw [rch_in (by omega) (by decide)] at h; exact h) (by decide) (pzS (hK.sub (tys' := []) [] rfl) trivial) rfl hl.1 rfl (Nat.le_of_ble_eq_true rfl) dX5_pour_89 ⟨Nat.zero_le _, Nat.zero_le _⟩ rfl ?_
                  refine x_ifb_eq (tgt := 115) hx hb dX5_pour_92 (by decide) (fun zc5 => False.elim (by first | exact absurd zc5 (by decide) | omega | (simp_all; done))) (fun zc5 => ?_)
                  refine lv_aload_n hx hb dX5_pour_95 rfl (lv_at hl 2 rfl) ?_
                  refine gf_X5_16 hx hb hG hown hK hP 0 rfl rfl dX5_pour_96 ?_
                  refine lv_iload_n hx hb dX5_pour_99 rfl (lv_at hl 4 rfl) ?_
                  refine x_iald hx hb hK hP 3 0 rfl rfl (by omega) (by decide) dX5_pour_100 ?_
                  rw [(hMB (o) (by omega)).1]
                  refine lv_iload_n hx hb dX5_pour_101 rfl (lv_at hl 1 rfl) ?_
                  refine x_iadd (v := nI (((S.1 o).length) + (cms (S.1 b) (S.1 o) ((S.1 b).length)))) hx hb dX5_pour_102 (nI_add _ _) ?_
                  refine lv_sipush (v := nI 200) hx hb dX5_pour_103 (by decide) ?_
                  refine x_cmp_le (tgt := 115) hx hb dX5_pour_106 (by decide) (by omega) (by omega) (fun zc6 => False.elim (by first | omega | contradiction | exact absurd zc6 (m1_ne _ (by omega)) | exact absurd zc6 (by decide) | exact absurd (Eq.symm zc6) (m1_ne _ (by omega)) | (simp_all; done))) (fun zc6 => ?_)
                  refine lv_aload_n hx hb dX5_pour_109 rfl (lv_at hl 2 rfl) ?_
                  refine lv_iconst (v := nI 3) hx hb dX5_pour_110 (by decide) ?_
                  refine k2_V hx hb hml hown hG cs_X5_58 (c5_refuse l D cI cZ d S th 3 hap) (by decide) (pzV hK rfl hB0.rc hB0) rfl hl.1 rfl (Nat.le_of_ble_eq_true rfl) dX5_pour_111 ⟨Nat.zero_le _, Nat.zero_le _⟩ rfl hS (fun q h => h) (fun H locs hB0 hz hk hS => ?_)
                  exact w_i (PB := (fun H => MdAt D cI cZ d S (nI 3) H)) rfl hB0 hS hx hb hr hlocks dX5_pour_114
                · have hcm := cms_le (S.1 b) (S.1 o) i
                  cases hf : fx (S.1 o) (kf (S.1 b) i) with
                  | none =>
                    refine lv_iload_n hx hb dX5_pour_52 rfl (lv_at hl 1 rfl) ?_
                    refine lv_aload_n hx hb dX5_pour_53 rfl (lv_at hl 2 rfl) ?_
                    refine lv_iload_n hx hb dX5_pour_54 rfl (lv_at hl 4 rfl) ?_
                    refine lv_aload_n hx hb dX5_pour_55 rfl (lv_at hl 2 rfl) ?_
                    refine gf_X5_7 hx hb hG hown hK hP 0 rfl rfl dX5_pour_56 ?_
                    refine lv_sipush (v := nI 201) hx hb dX5_pour_59 (by decide) ?_
                    refine lv_iload_n hx hb dX5_pour_62 rfl (lv_at hl 3 rfl) ?_
                    refine x_imul (v := nI (201 * b)) hx hb dX5_pour_63 (pk_mul _ _) ?_
                    refine lv_iload hx hb dX5_pour_64 (lv_at hl 0 rfl) ?_
                    refine x_iadd (v := nI ((201 * b) + i)) hx hb dX5_pour_66 (nI_add _ _) ?_
                    refine x_iald hx hb hK hP 1 0 rfl rfl (by omega) (by decide) dX5_pour_67 ?_
                    rw [show K ((201 * b) + i) = kf (S.1 b) i from ((hMB b (by omega)).2.2 i (by omega)).1]
                    refine k1_V hx hb hml hown hG cs_X5_50 (by have h := c5_place l D cI cZ d S th o (kf (S.1 b) i) (by omega); rw [hf] at h; exact h) (by decide) (pzV hK rfl hB0.rc hB0) rfl hl.1 rfl (Nat.le_of_ble_eq_true rfl) dX5_pour_68 ⟨Nat.zero_le _, Nat.zero_le _⟩ rfl ?_
                    refine lv_iconst (v := (-1)) hx hb dX5_pour_71 (by decide) ?_
                    refine lv_icmp_ne (tgt := 79) hx hb dX5_pour_72 (by decide) (fun zc7 => False.elim (by first | exact absurd zc7 (by decide) | omega | (simp_all; done))) (fun zc7 => ?_)
                    refine lv_iconst (v := nI 1) hx hb dX5_pour_75 (by decide) ?_
                    refine lv_goto (tgt := 80) hx hb dX5_pour_76 (by decide) ?_
                    refine x_iadd (v := nI ((cms (S.1 b) (S.1 o) i) + 1)) hx hb dX5_pour_80 (nI_add _ _) ?_
                    refine lv_istore_n (lv' := [(3, .int (nI ((cms (S.1 b) (S.1 o) i) + 1))), (4, .int (nI (i))), (0, .ref (d 0)), (1, .int (nI (b))), (2, .int (nI (o)))]) hx hb dX5_pour_81 rfl hl (by decide) rfl (fun ls hl => ?_)
                    refine x_iinc (k := 1) (lv' := [(4, .int (nI (i + 1))), (3, .int (nI ((cms (S.1 b) (S.1 o) i) + 1))), (0, .ref (d 0)), (1, .int (nI (b))), (2, .int (nI (o)))]) hx hb dX5_pour_82 hl rfl (by decide) rfl (fun ls hl => ?_)
                    refine lv_goto (tgt := 41) hx hb dX5_pour_85 (by decide) ?_
                    have e1 : cms (S.1 b) (S.1 o) (i + 1) = cms (S.1 b) (S.1 o) i + 1 := by rw [cms, hf]; rfl
                    exact ih (i + 1) (by omega) (by omega) ls (by rw [e1]; exact (lv_sub hl [0, 1, 2, 3, 4] rfl))
                  | some j =>
                    have hj := (fx_some hf).1
                    skip
                    refine lv_iload_n hx hb dX5_pour_52 rfl (lv_at hl 1 rfl) ?_
                    refine lv_aload_n hx hb dX5_pour_53 rfl (lv_at hl 2 rfl) ?_
                    refine lv_iload_n hx hb dX5_pour_54 rfl (lv_at hl 4 rfl) ?_
                    refine lv_aload_n hx hb dX5_pour_55 rfl (lv_at hl 2 rfl) ?_
                    refine gf_X5_7 hx hb hG hown hK hP 0 rfl rfl dX5_pour_56 ?_
                    refine lv_sipush (v := nI 201) hx hb dX5_pour_59 (by decide) ?_
                    refine lv_iload_n hx hb dX5_pour_62 rfl (lv_at hl 3 rfl) ?_
                    refine x_imul (v := nI (201 * b)) hx hb dX5_pour_63 (pk_mul _ _) ?_
                    refine lv_iload hx hb dX5_pour_64 (lv_at hl 0 rfl) ?_
                    refine x_iadd (v := nI ((201 * b) + i)) hx hb dX5_pour_66 (nI_add _ _) ?_
                    refine x_iald hx hb hK hP 1 0 rfl rfl (by omega) (by decide) dX5_pour_67 ?_
                    rw [show K ((201 * b) + i) = kf (S.1 b) i from ((hMB b (by omega)).2.2 i (by omega)).1]
                    refine k1_V hx hb hml hown hG cs_X5_50 (by have h := c5_place l D cI cZ d S th o (kf (S.1 b) i) (by omega); rw [hf] at h; exact h) (by decide) (pzV hK rfl hB0.rc hB0) rfl hl.1 rfl (Nat.le_of_ble_eq_true rfl) dX5_pour_68 ⟨Nat.zero_le _, Nat.zero_le _⟩ rfl ?_
                    refine lv_iconst (v := (-1)) hx hb dX5_pour_71 (by decide) ?_
                    refine lv_icmp_ne (tgt := 79) hx hb dX5_pour_72 (by decide) (fun zc8 => ?_) (fun zc8 => False.elim (by first | omega | contradiction | exact absurd zc8 (m1_ne _ (by omega)) | exact absurd zc8 (by decide) | exact absurd (Eq.symm zc8) (m1_ne _ (by omega)) | (simp_all; done)))
                    refine lv_iconst (v := nI 0) hx hb dX5_pour_79 (by decide) ?_
                    refine x_iadd (v := nI ((cms (S.1 b) (S.1 o) i) + 0)) hx hb dX5_pour_80 (nI_add _ _) ?_
                    refine lv_istore_n (lv' := [(3, .int (nI ((cms (S.1 b) (S.1 o) i) + 0))), (4, .int (nI (i))), (0, .ref (d 0)), (1, .int (nI (b))), (2, .int (nI (o)))]) hx hb dX5_pour_81 rfl hl (by decide) rfl (fun ls hl => ?_)
                    refine x_iinc (k := 1) (lv' := [(4, .int (nI (i + 1))), (3, .int (nI ((cms (S.1 b) (S.1 o) i) + 0))), (0, .ref (d 0)), (1, .int (nI (b))), (2, .int (nI (o)))]) hx hb dX5_pour_82 hl rfl (by decide) rfl (fun ls hl => ?_)
                    refine lv_goto (tgt := 41) hx hb dX5_pour_85 (by decide) ?_
                    have e1 : cms (S.1 b) (S.1 o) (i + 1) = cms (S.1 b) (S.1 o) i := by rw [cms, hf]; rfl
                    exact ih (i + 1) (by omega) (by omega) ls (by rw [e1]; exact (lv_sub hl [0, 1, 2, 3, 4] rfl))
            · skip
              have e9 : sp_pour S (nI (b)) (nI (o)) = (0, nI (stF (lgO o) S.2.1 (S.1 o) (S.1 b) (S.1 b).length).length, clB (upB S o (stF (lgO o) S.2.1 (S.1 o) (S.1 b) (S.1 b).length)) o (-1)) := by unfold sp_pour; rw [hbk, hbo]; exact (if_neg (by omega)).trans (if_neg (fun z => hov z.2))
              rw [e9]
              refine m_start (by decide) (Nat.le_of_ble_eq_true rfl) ?_
              intro p e s m below meth c hx hb hr hG hown hlocks hml hB ls hl
              have hl : lv_has ls 5 [(0, .ref (d 0)), (1, .int (nI (b))), (2, .int (nI (o)))] := hl
              obtain ⟨hB0, hK⟩ := hB
              have hS : va_S (Ao d 9) s.heap s.heap [] := va_S.rf
              have hcm0 := cms_le (S.1 b) (S.1 o) (S.1 b).length
              refine lv_iload_n hx hb dX5_pour_0 rfl (lv_at hl 1 rfl) ?_
              refine k1_S hx hb hml hown hG cs_X5_68 (by have h := c5_isBook l D (nI (b)); rw [rch_in (by omega) (by decide)] at h; exact h) (by decide) (pzS (hK.sub (tys' := []) [] rfl) trivial) rfl hl.1 rfl (Nat.le_of_ble_eq_true rfl) dX5_pour_1 ⟨Nat.zero_le _, Nat.zero_le _⟩ rfl ?_
              refine x_ifb_eq (tgt := 14) hx hb dX5_pour_4 (by decide) (fun zc1 => False.elim (by first | exact absurd zc1 (by decide) | omega | (simp_all; done))) (fun zc1 => ?_)
              refine lv_iload_n hx hb dX5_pour_7 rfl (lv_at hl 2 rfl) ?_
              refine k1_S hx hb hml hown hG cs_X5_68 (by have h := c5_isBook l D (nI (o)); rw [rch_in (by omega) (by decide)] at h; exact h) (by decide) (pzS (hK.sub (tys' := []) [] rfl) trivial) rfl hl.1 rfl (Nat.le_of_ble_eq_true rfl) dX5_pour_8 ⟨Nat.zero_le _, Nat.zero_le _⟩ rfl ?_
              refine x_ifb_ne (tgt := 20) hx hb dX5_pour_11 (by decide) (fun zc2 => ?_) (fun zc2 => False.elim (by first | exact absurd zc2 (by decide) | omega | (simp_all; done)))
              refine lv_iload_n hx hb dX5_pour_20 rfl (lv_at hl 2 rfl) ?_
              refine lv_iconst (v := nI 3) hx hb dX5_pour_21 (by decide) ?_
              refine x_cmp_eq (tgt := 30) hx hb dX5_pour_22 (by decide) (by omega) (by omega) (fun zc3 => False.elim (by first | omega | contradiction | exact absurd zc3 (m1_ne _ (by omega)) | exact absurd zc3 (by decide) | exact absurd (Eq.symm zc3) (m1_ne _ (by omega)) | (simp_all; done))) (fun zc3 => ?_)
              refine lv_iload_n hx hb dX5_pour_25 rfl (lv_at hl 1 rfl) ?_
              refine lv_iload_n hx hb dX5_pour_26 rfl (lv_at hl 2 rfl) ?_
              refine x_cmp_ne (tgt := 36) hx hb dX5_pour_27 (by decide) (by omega) (by omega) (fun zc4 => ?_) (fun zc4 => False.elim (by first | omega | contradiction | exact absurd zc4 (m1_ne _ (by omega)) | exact absurd zc4 (by decide) | exact absurd (Eq.symm zc4) (m1_ne _ (by omega)) | (simp_all; done)))
              obtain ⟨K, V, sz, cb, ck, ca, it, ou, hP, hMB, hMC, hMO⟩ := id hB0
              have hP : va_P D vwCl [(d 0, .inr (5, [.ref (d 1), .ref (d 2), .ref (d 3), .int (nI (S.2.1)), .int (th), .ref (d 4), .ref (d 5), .ref (d 6), .ref (d 7), .ref (d 8), .int (nI (S.2.2.2.length))])), (d 1, .inl (cI, (804, .inl K))), (d 2, .inl (cI, (804, .inl V))), (d 3, .inl (cI, (4, .inl sz))), (d 4, .inl (cI, (3, .inl cb))), (d 5, .inl (cI, (3, .inl ck))), (d 6, .inl (cI, (3, .inl ca))), (d 7, .inl (cZ, (3, .inl it))), (d 8, .inl (cI, (6000, .inl ou)))] s.heap := hP
              have hD : va_D (Ao d 9) [(d 0, .inr (5, [.ref (d 1), .ref (d 2), .ref (d 3), .int (nI (S.2.1)), .int (th), .ref (d 4), .ref (d 5), .ref (d 6), .ref (d 7), .ref (d 8), .int (nI (S.2.2.2.length))])), (d 1, .inl (cI, (804, .inl K))), (d 2, .inl (cI, (804, .inl V))), (d 3, .inl (cI, (4, .inl sz))), (d 4, .inl (cI, (3, .inl cb))), (d 5, .inl (cI, (3, .inl ck))), (d 6, .inl (cI, (3, .inl ca))), (d 7, .inl (cZ, (3, .inl it))), (d 8, .inl (cI, (6000, .inl ou)))] := hap.D9
              refine lv_iconst (v := nI 0) hx hb dX5_pour_36 (by decide) ?_
              refine lv_istore_n (lv' := [(3, .int (nI (0))), (0, .ref (d 0)), (1, .int (nI (b))), (2, .int (nI (o)))]) hx hb dX5_pour_37 rfl hl (by decide) rfl (fun ls hl => ?_)
              refine lv_iconst (v := nI 0) hx hb dX5_pour_38 (by decide) ?_
              refine lv_istore (lv' := [(4, .int (nI (0))), (3, .int (nI (0))), (0, .ref (d 0)), (1, .int (nI (b))), (2, .int (nI (o)))]) hx hb dX5_pour_39 hl (by decide) rfl (fun ls hl => ?_)
              suffices KK : ∀ (n i : Nat), (S.1 b).length < i + n → i ≤ (S.1 b).length → ∀ ls : Array Slot, lv_has ls 5 [(4, .int (nI (i))), (3, .int (nI (cms (S.1 b) (S.1 o) i))), (0, .ref (d 0)), (1, .int (nI (b))), (2, .int (nI (o)))] → W p l e (rmN 5) s m [.ref (d 0), .int (nI (b)), .int (nI (o))].toArray below meth c s.heap [] 0 0 (MQ below (Wq (some (.int (nI (stF (lgO o) S.2.1 (S.1 o) (S.1 b) (S.1 b).length).length))) (fun H => MdAt D cI cZ d (clB (upB S o (stF (lgO o) S.2.1 (S.1 o) (S.1 b) (S.1 b).length)) o (-1)) (nI 0) H) (Ao d 9)) [.ref (d 0), .int (nI (b)), .int (nI (o))].toArray s 0 0 (Ao d 9)) (F0 m 41 ls []) from KK ((S.1 b).length + 1) 0 (by omega) (by omega) ls (lv_sub hl [0, 1, 2, 3, 4] rfl)
              clear hl
              intro n
              induction n with
              | zero => intro i h1 h2; omega
              | succ n ih =>
                intro i h1 h2 ls hl
                refine lv_iload hx hb dX5_pour_41 (lv_at hl 0 rfl) ?_
                refine lv_aload_n hx hb dX5_pour_43 rfl (lv_at hl 2 rfl) ?_
                refine gf_X5_16 hx hb hG hown hK hP 0 rfl rfl dX5_pour_44 ?_
                refine lv_iload_n hx hb dX5_pour_47 rfl (lv_at hl 3 rfl) ?_
                refine x_iald hx hb hK hP 3 0 rfl rfl (by omega) (by decide) dX5_pour_48 ?_
                rw [(hMB (b) (by omega)).1]
                refine x_cmp_ge (tgt := 88) hx hb dX5_pour_49 (by decide) (by omega) (by omega) (fun c1 => ?_) (fun c1 => ?_)
                · have ei : i = (S.1 b).length := by omega
                  subst ei
                  refine lv_iload_n hx hb dX5_pour_88 rfl (lv_at hl 4 rfl) ?_
                  refine k1_S hx hb hml hown hG cs_X5_86 (by have h := c5_isPlain l D (nI (o)); rw [rch_in (by omega) (by decide)] at h; exact h) (by decide) (pzS (hK.sub (tys' := []) [] rfl) trivial) rfl hl.1 rfl (Nat.le_of_ble_eq_true rfl) dX5_pour_89 ⟨Nat.zero_le _, Nat.zero_le _⟩ rfl ?_
                  refine x_ifb_eq (tgt := 115) hx hb dX5_pour_92 (by decide) (fun zc5 => False.elim (by first | exact absurd zc5 (by decide) | omega | (simp_all; done))) (fun zc5 => ?_)
                  refine lv_aload_n hx hb dX5_pour_95 rfl (lv_at hl 2 rfl) ?_
                  refine gf_X5_16 hx hb hG hown hK hP 0 rfl rfl dX5_pour_96 ?_
                  refine lv_iload_n hx hb dX5_pour_99 rfl (lv_at hl 4 rfl) ?_
                  refine x_iald hx hb hK hP 3 0 rfl rfl (by omega) (by decide) dX5_pour_100 ?_
                  rw [(hMB (o) (by omega)).1]
                  refine lv_iload_n hx hb dX5_pour_101 rfl (lv_at hl 1 rfl) ?_
                  refine x_iadd (v := nI (((S.1 o).length) + (cms (S.1 b) (S.1 o) ((S.1 b).length)))) hx hb dX5_pour_102 (nI_add _ _) ?_
                  refine lv_sipush (v := nI 200) hx hb dX5_pour_103 (by decide) ?_
                  refine x_cmp_le (tgt := 115) hx hb dX5_pour_106 (by decide) (by omega) (by omega) (fun zc6 => ?_) (fun zc6 => False.elim (by first | omega | contradiction | exact absurd zc6 (m1_ne _ (by omega)) | exact absurd zc6 (by decide) | exact absurd (Eq.symm zc6) (m1_ne _ (by omega)) | (simp_all; done)))
                  refine lv_iconst (v := nI 0) hx hb dX5_pour_115 (by decide) ?_
                  refine lv_istore (lv' := [(4, .int (nI (0))), (3, .int (nI (cms (S.1 b) (S.1 o) ((S.1 b).length)))), (0, .ref (d 0)), (1, .int (nI (b))), (2, .int (nI (o)))]) hx hb dX5_pour_116 hl (by decide) rfl (fun ls hl => ?_)
                  have hfl : ∀ i, i ≤ (S.1 b).length → (stF (lgO o) S.2.1 (S.1 o) (S.1 b) i).length ≤ 200 := fun i hi => by
                    have h := (stF_in (bd := S.2.1) (L := S.1 o) hN.1 i hi).1
                    have h2 := cms_mono (S.1 b) (S.1 o) hi
                    rw [show lgO o = false from decide_eq_false ho2, h]
                    omega
                  suffices KK2 : ∀ (n i : Nat), (S.1 b).length < i + n → i ≤ (S.1 b).length → ∀ (H : Heap) (locs : List Loc), MdAt D cI cZ d (upB S o (stF (lgO o) S.2.1 (S.1 o) (S.1 b) i)) th H → va_S (Ao d 9) s.heap H locs → ∀ ls : Array Slot, lv_has ls 5 [(4, .int (nI (i))), (3, .int (nI (cms (S.1 b) (S.1 o) (S.1 b).length))), (0, .ref (d 0)), (1, .int (nI (b))), (2, .int (nI (o)))] → W p l e (rmN 5) s m [.ref (d 0), .int (nI (b)), .int (nI (o))].toArray below meth c H locs 0 0 (MQ below (Wq (some (.int (nI (stF (lgO o) S.2.1 (S.1 o) (S.1 b) (S.1 b).length).length))) (fun H => MdAt D cI cZ d (clB (upB S o (stF (lgO o) S.2.1 (S.1 o) (S.1 b) (S.1 b).length)) o (-1)) (nI 0) H) (Ao d 9)) [.ref (d 0), .int (nI (b)), .int (nI (o))].toArray s 0 0 (Ao d 9)) (F0 m 118 ls []) from KK2 ((S.1 b).length + 1) 0 (by omega) (by omega) s.heap [] (by rw [show (upB S o (stF (lgO o) S.2.1 (S.1 o) (S.1 b) 0)) = S from upB_id S o]; exact hB0) hS ls (lv_sub hl [0, 1, 2, 3, 4] rfl)
                  clear ih hB0 hP hMB hMC hMO hD hS hl
                  intro n2
                  induction n2 with
                  | zero => intro i h1 h2; omega
                  | succ n2 ih =>
                    intro i h1 h2 H locs hB0 hS ls hl
                    refine lv_iload hx hb dX5_pour_118 (lv_at hl 0 rfl) ?_
                    refine lv_aload_n hx hb dX5_pour_120 rfl (lv_at hl 2 rfl) ?_
                    obtain ⟨K, V, sz, cb, ck, ca, it, ou, hP, hMB, hMC, hMO⟩ := id hB0
                    have hP : va_P D vwCl [(d 0, .inr (5, [.ref (d 1), .ref (d 2), .ref (d 3), .int (nI (S.2.1)), .int (th), .ref (d 4), .ref (d 5), .ref (d 6), .ref (d 7), .ref (d 8), .int (nI (S.2.2.2.length))])), (d 1, .inl (cI, (804, .inl K))), (d 2, .inl (cI, (804, .inl V))), (d 3, .inl (cI, (4, .inl sz))), (d 4, .inl (cI, (3, .inl cb))), (d 5, .inl (cI, (3, .inl ck))), (d 6, .inl (cI, (3, .inl ca))), (d 7, .inl (cZ, (3, .inl it))), (d 8, .inl (cI, (6000, .inl ou)))] H := hP
                    have hD : va_D (Ao d 9) [(d 0, .inr (5, [.ref (d 1), .ref (d 2), .ref (d 3), .int (nI (S.2.1)), .int (th), .ref (d 4), .ref (d 5), .ref (d 6), .ref (d 7), .ref (d 8), .int (nI (S.2.2.2.length))])), (d 1, .inl (cI, (804, .inl K))), (d 2, .inl (cI, (804, .inl V))), (d 3, .inl (cI, (4, .inl sz))), (d 4, .inl (cI, (3, .inl cb))), (d 5, .inl (cI, (3, .inl ck))), (d 6, .inl (cI, (3, .inl ca))), (d 7, .inl (cZ, (3, .inl it))), (d 8, .inl (cI, (6000, .inl ou)))] := hap.D9
                    refine gf_X5_16 hx hb hG hown hK hP 0 rfl rfl dX5_pour_121 ?_
                    refine lv_iload_n hx hb dX5_pour_124 rfl (lv_at hl 3 rfl) ?_
                    refine x_iald hx hb hK hP 3 0 rfl rfl (by omega) (by decide) dX5_pour_125 ?_
                    rw [show sz b = nI (S.1 b).length from by have h := (hMB b (by omega)).1; rw [upB_ne S _ hbo2] at h; exact h]
                    refine x_cmp_ge (tgt := 166) hx hb dX5_pour_126 (by decide) (by omega) (by omega) (fun c2 => ?_) (fun c2 => ?_)
                    · have ei : i = (S.1 b).length := by omega
                      rw [ei] at hMB hB0
                      refine lv_aload_n hx hb dX5_pour_166 rfl (lv_at hl 2 rfl) ?_
                      refine lv_iload_n hx hb dX5_pour_167 rfl (lv_at hl 4 rfl) ?_
                      refine lv_iconst (v := (-1)) hx hb dX5_pour_168 (by decide) ?_
                      refine k2_V hx hb hml hown hG cs_X5_62 (c5_closes l D cI cZ d (upB S o (stF (lgO o) S.2.1 (S.1 o) (S.1 b) ((S.1 b).length))) th o (-1) (by omega) hCC hap) (by decide) (pzV hK rfl hB0.rc hB0) rfl hl.1 rfl (Nat.le_of_ble_eq_true rfl) dX5_pour_169 ⟨Nat.zero_le _, Nat.zero_le _⟩ rfl hS (fun q h => h) (fun H locs hB0 hz hk hS => ?_)
                      refine lv_aload_n hx hb dX5_pour_172 rfl (lv_at hl 2 rfl) ?_
                      refine lv_aload_n hx hb dX5_pour_173 rfl (lv_at hl 2 rfl) ?_
                      obtain ⟨K, V, sz, cb, ck, ca, it, ou, hP, hMB, hMC, hMO⟩ := id hB0
                      have hMB : MdB (upB S o (stF (lgO o) S.2.1 (S.1 o) (S.1 b) ((S.1 b).length))).1 K V sz := hMB
                      have hP : va_P D vwCl [(d 0, .inr (5, [.ref (d 1), .ref (d 2), .ref (d 3), .int (nI (S.2.1)), .int (th), .ref (d 4), .ref (d 5), .ref (d 6), .ref (d 7), .ref (d 8), .int (nI (S.2.2.2.length))])), (d 1, .inl (cI, (804, .inl K))), (d 2, .inl (cI, (804, .inl V))), (d 3, .inl (cI, (4, .inl sz))), (d 4, .inl (cI, (3, .inl cb))), (d 5, .inl (cI, (3, .inl ck))), (d 6, .inl (cI, (3, .inl ca))), (d 7, .inl (cZ, (3, .inl it))), (d 8, .inl (cI, (6000, .inl ou)))] H := hP
                      have hD : va_D (Ao d 9) [(d 0, .inr (5, [.ref (d 1), .ref (d 2), .ref (d 3), .int (nI (S.2.1)), .int (th), .ref (d 4), .ref (d 5), .ref (d 6), .ref (d 7), .ref (d 8), .int (nI (S.2.2.2.length))])), (d 1, .inl (cI, (804, .inl K))), (d 2, .inl (cI, (804, .inl V))), (d 3, .inl (cI, (4, .inl sz))), (d 4, .inl (cI, (3, .inl cb))), (d 5, .inl (cI, (3, .inl ck))), (d 6, .inl (cI, (3, .inl ca))), (d 7, .inl (cZ, (3, .inl it))), (d 8, .inl (cI, (6000, .inl ou)))] := hap.D9
                      refine gf_X5_16 hx hb hG hown hK hP 0 rfl rfl dX5_pour_174 ?_
                      refine lv_iload_n hx hb dX5_pour_177 rfl (lv_at hl 4 rfl) ?_
                      refine x_iald hx hb hK hP 3 0 rfl rfl (by omega) (by decide) dX5_pour_178 ?_
                      rw [(hMB (o) (by omega)).1]
                      refine k2_V hx hb hml hown hG cs_X5_65 (c5_told l D cI cZ d (clB (upB S o (stF (lgO o) S.2.1 (S.1 o) (S.1 b) ((S.1 b).length))) o (-1)) th (nI (((upB S o (stF (lgO o) S.2.1 (S.1 o) (S.1 b) ((S.1 b).length))).1 o).length)) hap) (by decide) (pzV hK rfl hB0.rc hB0) rfl hl.1 rfl (Nat.le_of_ble_eq_true rfl) dX5_pour_179 ⟨Nat.zero_le _, Nat.zero_le _⟩ rfl hS (fun q h => h) (fun H locs hB0 hz hk hS => ?_)
                      exact w_i (PB := (fun H => MdAt D cI cZ d (clB (upB S o (stF (lgO o) S.2.1 (S.1 o) (S.1 b) (S.1 b).length)) o (-1)) (nI 0) H)) (by rw [upB_at]) hB0 hS hx hb hr hlocks dX5_pour_182
                    · refine lv_aload_n hx hb dX5_pour_129 rfl (lv_at hl 2 rfl) ?_
                      refine lv_iload_n hx hb dX5_pour_130 rfl (lv_at hl 4 rfl) ?_
                      refine lv_aload_n hx hb dX5_pour_131 rfl (lv_at hl 2 rfl) ?_
                      refine gf_X5_7 hx hb hG hown hK hP 0 rfl rfl dX5_pour_132 ?_
                      refine lv_sipush (v := nI 201) hx hb dX5_pour_135 (by decide) ?_
                      refine lv_iload_n hx hb dX5_pour_138 rfl (lv_at hl 3 rfl) ?_
                      refine x_imul (v := nI (201 * b)) hx hb dX5_pour_139 (pk_mul _ _) ?_
                      refine lv_iload hx hb dX5_pour_140 (lv_at hl 0 rfl) ?_
                      refine x_iadd (v := nI ((201 * b) + i)) hx hb dX5_pour_142 (nI_add _ _) ?_
                      refine x_iald hx hb hK hP 1 0 rfl rfl (by omega) (by decide) dX5_pour_143 ?_
                      rw [show K ((201 * b) + i) = kf (S.1 b) i from by have h := ((hMB b (by omega)).2.2 i (by rw [upB_ne S _ hbo2]; omega)).1; rw [upB_ne S _ hbo2] at h; exact h]
                      refine lv_aload_n hx hb dX5_pour_144 rfl (lv_at hl 2 rfl) ?_
                      refine gf_X5_13 hx hb hG hown hK hP 0 rfl rfl dX5_pour_145 ?_
                      refine lv_sipush (v := nI 201) hx hb dX5_pour_148 (by decide) ?_
                      refine lv_iload_n hx hb dX5_pour_151 rfl (lv_at hl 3 rfl) ?_
                      refine x_imul (v := nI (201 * b)) hx hb dX5_pour_152 (pk_mul _ _) ?_
                      refine lv_iload hx hb dX5_pour_153 (lv_at hl 0 rfl) ?_
                      refine x_iadd (v := nI ((201 * b) + i)) hx hb dX5_pour_155 (nI_add _ _) ?_
                      refine x_iald hx hb hK hP 2 0 rfl rfl (by omega) (by decide) dX5_pour_156 ?_
                      rw [show V ((201 * b) + i) = vf (S.1 b) i from by have h := ((hMB b (by omega)).2.2 i (by rw [upB_ne S _ hbo2]; omega)).2; rw [upB_ne S _ hbo2] at h; exact h]
                      refine k2_V hx hb hml hown hG cs_X5_79 (c5_puts l D cI cZ d (upB S o (stF (lgO o) S.2.1 (S.1 o) (S.1 b) i)) th o (kf (S.1 b) i) (vf (S.1 b) i) (by omega) hap (by rw [upB_at]; exact hfl i (by omega)) (by show S.2.1 ≤ 200; omega)) (by decide) (pzV hK rfl hB0.rc hB0) rfl hl.1 rfl (Nat.le_of_ble_eq_true rfl) dX5_pour_157 ⟨Nat.zero_le _, Nat.zero_le _⟩ rfl hS (fun q h => h) (fun H locs hB0 hz hk hS => ?_)
                      have hB0 : MdAt D cI cZ d (upB S o (stF (lgO o) S.2.1 (S.1 o) (S.1 b) (i + 1))) th H := by rw [upB_up, upB_at] at hB0; exact hB0
                      refine x_iinc (k := 0) (lv' := [(4, .int (nI (i + 1))), (3, .int (nI (cms (S.1 b) (S.1 o) (S.1 b).length))), (0, .ref (d 0)), (1, .int (nI (b))), (2, .int (nI (o)))]) hx hb dX5_pour_160 hl rfl (by decide) rfl (fun ls hl => ?_)
                      refine lv_goto (tgt := 118) hx hb dX5_pour_163 (by decide) ?_
                      exact ih (i + 1) (by omega) (by omega) H locs hB0 hS ls (lv_sub hl [0, 1, 2, 3, 4] rfl)
                · have hcm := cms_le (S.1 b) (S.1 o) i
                  cases hf : fx (S.1 o) (kf (S.1 b) i) with
                  | none =>
                    refine lv_iload_n hx hb dX5_pour_52 rfl (lv_at hl 1 rfl) ?_
                    refine lv_aload_n hx hb dX5_pour_53 rfl (lv_at hl 2 rfl) ?_
                    refine lv_iload_n hx hb dX5_pour_54 rfl (lv_at hl 4 rfl) ?_
                    refine lv_aload_n hx hb dX5_pour_55 rfl (lv_at hl 2 rfl) ?_
                    refine gf_X5_7 hx hb hG hown hK hP 0 rfl rfl dX5_pour_56 ?_
                    refine lv_sipush (v := nI 201) hx hb dX5_pour_59 (by decide) ?_
                    refine lv_iload_n hx hb dX5_pour_62 rfl (lv_at hl 3 rfl) ?_
                    refine x_imul (v := nI (201 * b)) hx hb dX5_pour_63 (pk_mul _ _) ?_
                    refine lv_iload hx hb dX5_pour_64 (lv_at hl 0 rfl) ?_
                    refine x_iadd (v := nI ((201 * b) + i)) hx hb dX5_pour_66 (nI_add _ _) ?_
                    refine x_iald hx hb hK hP 1 0 rfl rfl (by omega) (by decide) dX5_pour_67 ?_
                    rw [show K ((201 * b) + i) = kf (S.1 b) i from ((hMB b (by omega)).2.2 i (by omega)).1]
                    refine k1_V hx hb hml hown hG cs_X5_50 (by have h := c5_place l D cI cZ d S th o (kf (S.1 b) i) (by omega); rw [hf] at h; exact h) (by decide) (pzV hK rfl hB0.rc hB0) rfl hl.1 rfl (Nat.le_of_ble_eq_true rfl) dX5_pour_68 ⟨Nat.zero_le _, Nat.zero_le _⟩ rfl ?_
                    refine lv_iconst (v := (-1)) hx hb dX5_pour_71 (by decide) ?_
                    refine lv_icmp_ne (tgt := 79) hx hb dX5_pour_72 (by decide) (fun zc7 => False.elim (by first | exact absurd zc7 (by decide) | omega | (simp_all; done))) (fun zc7 => ?_)
                    refine lv_iconst (v := nI 1) hx hb dX5_pour_75 (by decide) ?_
                    refine lv_goto (tgt := 80) hx hb dX5_pour_76 (by decide) ?_
                    refine x_iadd (v := nI ((cms (S.1 b) (S.1 o) i) + 1)) hx hb dX5_pour_80 (nI_add _ _) ?_
                    refine lv_istore_n (lv' := [(3, .int (nI ((cms (S.1 b) (S.1 o) i) + 1))), (4, .int (nI (i))), (0, .ref (d 0)), (1, .int (nI (b))), (2, .int (nI (o)))]) hx hb dX5_pour_81 rfl hl (by decide) rfl (fun ls hl => ?_)
                    refine x_iinc (k := 1) (lv' := [(4, .int (nI (i + 1))), (3, .int (nI ((cms (S.1 b) (S.1 o) i) + 1))), (0, .ref (d 0)), (1, .int (nI (b))), (2, .int (nI (o)))]) hx hb dX5_pour_82 hl rfl (by decide) rfl (fun ls hl => ?_)
                    refine lv_goto (tgt := 41) hx hb dX5_pour_85 (by decide) ?_
                    have e1 : cms (S.1 b) (S.1 o) (i + 1) = cms (S.1 b) (S.1 o) i + 1 := by rw [cms, hf]; rfl
                    exact ih (i + 1) (by omega) (by omega) ls (by rw [e1]; exact (lv_sub hl [0, 1, 2, 3, 4] rfl))
                  | some j =>
                    have hj := (fx_some hf).1
                    skip
                    refine lv_iload_n hx hb dX5_pour_52 rfl (lv_at hl 1 rfl) ?_
                    refine lv_aload_n hx hb dX5_pour_53 rfl (lv_at hl 2 rfl) ?_
                    refine lv_iload_n hx hb dX5_pour_54 rfl (lv_at hl 4 rfl) ?_
                    refine lv_aload_n hx hb dX5_pour_55 rfl (lv_at hl 2 rfl) ?_
                    refine gf_X5_7 hx hb hG hown hK hP 0 rfl rfl dX5_pour_56 ?_
                    refine lv_sipush (v := nI 201) hx hb dX5_pour_59 (by decide) ?_
                    refine lv_iload_n hx hb dX5_pour_62 rfl (lv_at hl 3 rfl) ?_
                    refine x_imul (v := nI (201 * b)) hx hb dX5_pour_63 (pk_mul _ _) ?_
                    refine lv_iload hx hb dX5_pour_64 (lv_at hl 0 rfl) ?_
                    refine x_iadd (v := nI ((201 * b) + i)) hx hb dX5_pour_66 (nI_add _ _) ?_
                    refine x_iald hx hb hK hP 1 0 rfl rfl (by omega) (by decide) dX5_pour_67 ?_
                    rw [show K ((201 * b) + i) = kf (S.1 b) i from ((hMB b (by omega)).2.2 i (by omega)).1]
                    refine k1_V hx hb hml hown hG cs_X5_50 (by have h := c5_place l D cI cZ d S th o (kf (S.1 b) i) (by omega); rw [hf] at h; exact h) (by decide) (pzV hK rfl hB0.rc hB0) rfl hl.1 rfl (Nat.le_of_ble_eq_true rfl) dX5_pour_68 ⟨Nat.zero_le _, Nat.zero_le _⟩ rfl ?_
                    refine lv_iconst (v := (-1)) hx hb dX5_pour_71 (by decide) ?_
                    refine lv_icmp_ne (tgt := 79) hx hb dX5_pour_72 (by decide) (fun zc8 => ?_) (fun zc8 => False.elim (by first | omega | contradiction | exact absurd zc8 (m1_ne _ (by omega)) | exact absurd zc8 (by decide) | exact absurd (Eq.symm zc8) (m1_ne _ (by omega)) | (simp_all; done)))
                    refine lv_iconst (v := nI 0) hx hb dX5_pour_79 (by decide) ?_
                    refine x_iadd (v := nI ((cms (S.1 b) (S.1 o) i) + 0)) hx hb dX5_pour_80 (nI_add _ _) ?_
                    refine lv_istore_n (lv' := [(3, .int (nI ((cms (S.1 b) (S.1 o) i) + 0))), (4, .int (nI (i))), (0, .ref (d 0)), (1, .int (nI (b))), (2, .int (nI (o)))]) hx hb dX5_pour_81 rfl hl (by decide) rfl (fun ls hl => ?_)
                    refine x_iinc (k := 1) (lv' := [(4, .int (nI (i + 1))), (3, .int (nI ((cms (S.1 b) (S.1 o) i) + 0))), (0, .ref (d 0)), (1, .int (nI (b))), (2, .int (nI (o)))]) hx hb dX5_pour_82 hl rfl (by decide) rfl (fun ls hl => ?_)
                    refine lv_goto (tgt := 41) hx hb dX5_pour_85 (by decide) ?_
                    have e1 : cms (S.1 b) (S.1 o) (i + 1) = cms (S.1 b) (S.1 o) i := by rw [cms, hf]; rfl
                    exact ih (i + 1) (by omega) (by omega) ls (by rw [e1]; exact (lv_sub hl [0, 1, 2, 3, 4] rfl))
    · skip
      have e9 : sp_pour S (nI (b)) y = (1, 0, S) := by simp [sp_pour, sp_pour, hbk, hbo]
      rw [e9]
      refine m_start (by decide) (Nat.le_of_ble_eq_true rfl) ?_
      intro p e s m below meth c hx hb hr hG hown hlocks hml hB ls hl
      have hl : lv_has ls 5 [(0, .ref (d 0)), (1, .int (nI (b))), (2, .int (y))] := hl
      obtain ⟨hB0, hK⟩ := hB
      have hS : va_S (Ao d 9) s.heap s.heap [] := va_S.rf
      refine lv_iload_n hx hb dX5_pour_0 rfl (lv_at hl 1 rfl) ?_
      refine k1_S hx hb hml hown hG cs_X5_68 (by have h := c5_isBook l D (nI (b)); rw [rch_in (by omega) (by decide)] at h; exact h) (by decide) (pzS (hK.sub (tys' := []) [] rfl) trivial) rfl hl.1 rfl (Nat.le_of_ble_eq_true rfl) dX5_pour_1 ⟨Nat.zero_le _, Nat.zero_le _⟩ rfl ?_
      refine x_ifb_eq (tgt := 14) hx hb dX5_pour_4 (by decide) (fun zc1 => False.elim (by first | exact absurd zc1 (by decide) | omega | (simp_all; done))) (fun zc1 => ?_)
      refine lv_iload_n hx hb dX5_pour_7 rfl (lv_at hl 2 rfl) ?_
      refine k1_S hx hb hml hown hG cs_X5_68 (by have h := c5_isBook l D y; rw [hno] at h; exact h) (by decide) (pzS (hK.sub (tys' := []) [] rfl) trivial) rfl hl.1 rfl (Nat.le_of_ble_eq_true rfl) dX5_pour_8 ⟨Nat.zero_le _, Nat.zero_le _⟩ rfl ?_
      refine x_ifb_ne (tgt := 20) hx hb dX5_pour_11 (by decide) (fun zc2 => False.elim (by first | exact absurd zc2 (by decide) | omega | (simp_all; done))) (fun zc2 => ?_)
      refine lv_aload_n hx hb dX5_pour_14 rfl (lv_at hl 0 rfl) ?_
      refine lv_iconst (v := nI 1) hx hb dX5_pour_15 (by decide) ?_
      refine k2_V hx hb hml hown hG cs_X5_58 (c5_refuse l D cI cZ d S th 1 hap) (by decide) (pzV hK rfl hB0.rc hB0) rfl hl.1 rfl (Nat.le_of_ble_eq_true rfl) dX5_pour_16 ⟨Nat.zero_le _, Nat.zero_le _⟩ rfl hS (fun q h => h) (fun H locs hB0 hz hk hS => ?_)
      exact w_i (PB := (fun H => MdAt D cI cZ d S (nI 1) H)) rfl hB0 hS hx hb hr hlocks dX5_pour_19
  · skip
    have e9 : sp_pour S x y = (1, 0, S) := by simp [sp_pour, hbk]
    rw [e9]
    refine m_start (by decide) (Nat.le_of_ble_eq_true rfl) ?_
    intro p e s m below meth c hx hb hr hG hown hlocks hml hB ls hl
    have hl : lv_has ls 5 [(0, .ref (d 0)), (1, .int (x)), (2, .int (y))] := hl
    obtain ⟨hB0, hK⟩ := hB
    have hS : va_S (Ao d 9) s.heap s.heap [] := va_S.rf
    refine lv_iload_n hx hb dX5_pour_0 rfl (lv_at hl 1 rfl) ?_
    refine k1_S hx hb hml hown hG cs_X5_68 (by have h := c5_isBook l D x; rw [hno] at h; exact h) (by decide) (pzS (hK.sub (tys' := []) [] rfl) trivial) rfl hl.1 rfl (Nat.le_of_ble_eq_true rfl) dX5_pour_1 ⟨Nat.zero_le _, Nat.zero_le _⟩ rfl ?_
    refine x_ifb_eq (tgt := 14) hx hb dX5_pour_4 (by decide) (fun zc1 => ?_) (fun zc1 => False.elim (by first | exact absurd zc1 (by decide) | omega | (simp_all; done)))
    refine lv_aload_n hx hb dX5_pour_14 rfl (lv_at hl 0 rfl) ?_
    refine lv_iconst (v := nI 1) hx hb dX5_pour_15 (by decide) ?_
    refine k2_V hx hb hml hown hG cs_X5_58 (c5_refuse l D cI cZ d S th 1 hap) (by decide) (pzV hK rfl hB0.rc hB0) rfl hl.1 rfl (Nat.le_of_ble_eq_true rfl) dX5_pour_16 ⟨Nat.zero_le _, Nat.zero_le _⟩ rfl hS (fun q h => h) (fun H locs hB0 hz hk hS => ?_)
    exact w_i (PB := (fun H => MdAt D cI cZ d S (nI 1) H)) rfl hB0 hS hx hb hr hlocks dX5_pour_19
theorem MdB.cpy {B : Nat → Bk} {K V sz K' V' : Nat → Int32} (h : MdB B K V sz) {b : Nat} (L : Bk) (hL : L.length ≤ 201) (hk : ∀ j, j < L.length → K' (201 * b + j) = kf L j ∧ V' (201 * b + j) = vf L j) (ho : ∀ q, (q < 201 * b ∨ 201 * b + 201 ≤ q) → K' q = K q ∧ V' q = V q) : MdB (va_up B b L) K' V' (upd sz b (nI L.length)) := h.put L hL (by rw [upd_at, if_pos rfl]) (fun o ho => by rw [upd_at, if_neg ho]) hk ho
set_option maxHeartbeats 4000000 in
set_option maxRecDepth 100000 in
theorem m_copy (l : Launch) (D : va_G) (cI cZ : ClassId) (d : Nat → Nat) (S : St) (th : Int32) (x y : Int32) (hI : Inv S) (hap : Ap d 9) : Met l yX5_copy (ws_ yX5_copy cX5_copy 4 (some .int)) (rmN 5) (va_Pc [.ref (d 0), .int x, .int y] (pz D [(cI, .int), (cZ, .boolean)] (fun H => MdAt D cI cZ d S th H))) (Wq (some (.int (sp_copy S x y).2.1)) (fun H => MdAt D cI cZ d (sp_copy S x y).2.2 (nI (sp_copy S x y).1) H) (Ao d 9)) 0 0 (Ao d 9) := by
  have hbd2 : S.2.1 ≤ 40 := hI.2.2.2.1
  have hCC : ∀ cu, cu < 3 → ∀ y, S.2.2.1 cu = some y → y.1 < 4 := fun cu hcu y hy => by have h := hI.2.2.2.2.1 cu hcu; rw [hy] at h; exact h.1
  rcases bkn_cases 4 (by decide) x with ⟨b, hb4, rfl, hbk⟩ | ⟨hbk, hno⟩
  · rcases bkn_cases 4 (by decide) y with ⟨o, ho4, rfl, hbo⟩ | ⟨hbo, hno⟩
    · have hN := hI.1 b hb4
      have hNo := hI.1 o ho4
      by_cases ho2 : 2 ≤ o
      · skip
        have e9 : sp_copy S (nI (b)) (nI (o)) = (2, 0, S) := by simp [sp_copy, hbk, hbo, ho2]
        rw [e9]
        refine m_start (by decide) (Nat.le_of_ble_eq_true rfl) ?_
        intro p e s m below meth c hx hb hr hG hown hlocks hml hB ls hl
        have hl : lv_has ls 4 [(0, .ref (d 0)), (1, .int (nI (b))), (2, .int (nI (o)))] := hl
        obtain ⟨hB0, hK⟩ := hB
        have hS : va_S (Ao d 9) s.heap s.heap [] := va_S.rf
        refine lv_iload_n hx hb dX5_copy_0 rfl (lv_at hl 1 rfl) ?_
        refine k1_S hx hb hml hown hG cs_X5_68 (by have h := c5_isBook l D (nI (b)); rw [rch_in (by omega) (by decide)] at h; exact h) (by decide) (pzS (hK.sub (tys' := []) [] rfl) trivial) rfl hl.1 rfl (Nat.le_of_ble_eq_true rfl) dX5_copy_1 ⟨Nat.zero_le _, Nat.zero_le _⟩ rfl ?_
        refine x_ifb_eq (tgt := 14) hx hb dX5_copy_4 (by decide) (fun zc1 => False.elim (by first | exact absurd zc1 (by decide) | omega | (simp_all; done))) (fun zc1 => ?_)
        refine lv_iload_n hx hb dX5_copy_7 rfl (lv_at hl 2 rfl) ?_
        refine k1_S hx hb hml hown hG cs_X5_68 (by have h := c5_isBook l D (nI (o)); rw [rch_in (by omega) (by decide)] at h; exact h) (by decide) (pzS (hK.sub (tys' := []) [] rfl) trivial) rfl hl.1 rfl (Nat.le_of_ble_eq_true rfl) dX5_copy_8 ⟨Nat.zero_le _, Nat.zero_le _⟩ rfl ?_
        refine x_ifb_ne (tgt := 20) hx hb dX5_copy_11 (by decide) (fun zc2 => ?_) (fun zc2 => False.elim (by first | exact absurd zc2 (by decide) | omega | (simp_all; done)))
        refine lv_iload_n hx hb dX5_copy_20 rfl (lv_at hl 2 rfl) ?_
        refine k1_S hx hb hml hown hG cs_X5_86 (by have h := c5_isPlain l D (nI (o)); rw [show rch 2 (nI o) = false from rch_hi (nI_le (by omega) (by omega))] at h; exact h) (by decide) (pzS (hK.sub (tys' := []) [] rfl) trivial) rfl hl.1 rfl (Nat.le_of_ble_eq_true rfl) dX5_copy_21 ⟨Nat.zero_le _, Nat.zero_le _⟩ rfl ?_
        refine x_ifb_eq (tgt := 32) hx hb dX5_copy_24 (by decide) (fun zc3 => ?_) (fun zc3 => False.elim (by first | exact absurd zc3 (by decide) | omega | (simp_all; done)))
        refine lv_aload_n hx hb dX5_copy_32 rfl (lv_at hl 0 rfl) ?_
        refine lv_iconst (v := nI 2) hx hb dX5_copy_33 (by decide) ?_
        refine k2_V hx hb hml hown hG cs_X5_58 (c5_refuse l D cI cZ d S th 2 hap) (by decide) (pzV hK rfl hB0.rc hB0) rfl hl.1 rfl (Nat.le_of_ble_eq_true rfl) dX5_copy_34 ⟨Nat.zero_le _, Nat.zero_le _⟩ rfl hS (fun q h => h) (fun H locs hB0 hz hk hS => ?_)
        exact w_i (PB := (fun H => MdAt D cI cZ d S (nI 2) H)) rfl hB0 hS hx hb hr hlocks dX5_copy_37
      · by_cases hbo2 : b = o
        · skip
          have e9 : sp_copy S (nI (b)) (nI (o)) = (2, 0, S) := by unfold sp_copy; rw [hbk, hbo]; exact if_pos (Or.inr hbo2)
          rw [e9]
          refine m_start (by decide) (Nat.le_of_ble_eq_true rfl) ?_
          intro p e s m below meth c hx hb hr hG hown hlocks hml hB ls hl
          have hl : lv_has ls 4 [(0, .ref (d 0)), (1, .int (nI (b))), (2, .int (nI (o)))] := hl
          obtain ⟨hB0, hK⟩ := hB
          have hS : va_S (Ao d 9) s.heap s.heap [] := va_S.rf
          refine lv_iload_n hx hb dX5_copy_0 rfl (lv_at hl 1 rfl) ?_
          refine k1_S hx hb hml hown hG cs_X5_68 (by have h := c5_isBook l D (nI (b)); rw [rch_in (by omega) (by decide)] at h; exact h) (by decide) (pzS (hK.sub (tys' := []) [] rfl) trivial) rfl hl.1 rfl (Nat.le_of_ble_eq_true rfl) dX5_copy_1 ⟨Nat.zero_le _, Nat.zero_le _⟩ rfl ?_
          refine x_ifb_eq (tgt := 14) hx hb dX5_copy_4 (by decide) (fun zc1 => False.elim (by first | exact absurd zc1 (by decide) | omega | (simp_all; done))) (fun zc1 => ?_)
          refine lv_iload_n hx hb dX5_copy_7 rfl (lv_at hl 2 rfl) ?_
          refine k1_S hx hb hml hown hG cs_X5_68 (by have h := c5_isBook l D (nI (o)); rw [rch_in (by omega) (by decide)] at h; exact h) (by decide) (pzS (hK.sub (tys' := []) [] rfl) trivial) rfl hl.1 rfl (Nat.le_of_ble_eq_true rfl) dX5_copy_8 ⟨Nat.zero_le _, Nat.zero_le _⟩ rfl ?_
          refine x_ifb_ne (tgt := 20) hx hb dX5_copy_11 (by decide) (fun zc2 => ?_) (fun zc2 => False.elim (by first | exact absurd zc2 (by decide) | omega | (simp_all; done)))
          refine lv_iload_n hx hb dX5_copy_20 rfl (lv_at hl 2 rfl) ?_
          refine k1_S hx hb hml hown hG cs_X5_86 (by have h := c5_isPlain l D (nI (o)); rw [rch_in (by omega) (by decide)] at h; exact h) (by decide) (pzS (hK.sub (tys' := []) [] rfl) trivial) rfl hl.1 rfl (Nat.le_of_ble_eq_true rfl) dX5_copy_21 ⟨Nat.zero_le _, Nat.zero_le _⟩ rfl ?_
          refine x_ifb_eq (tgt := 32) hx hb dX5_copy_24 (by decide) (fun zc3 => False.elim (by first | exact absurd zc3 (by decide) | omega | (simp_all; done))) (fun zc3 => ?_)
          refine lv_iload_n hx hb dX5_copy_27 rfl (lv_at hl 1 rfl) ?_
          refine lv_iload_n hx hb dX5_copy_28 rfl (lv_at hl 2 rfl) ?_
          refine x_cmp_ne (tgt := 38) hx hb dX5_copy_29 (by decide) (by omega) (by omega) (fun zc4 => False.elim (by first | omega | contradiction | exact absurd zc4 (m1_ne _ (by omega)) | exact absurd zc4 (by decide) | exact absurd (Eq.symm zc4) (m1_ne _ (by omega)) | (simp_all; done))) (fun zc4 => ?_)
          refine lv_aload_n hx hb dX5_copy_32 rfl (lv_at hl 0 rfl) ?_
          refine lv_iconst (v := nI 2) hx hb dX5_copy_33 (by decide) ?_
          refine k2_V hx hb hml hown hG cs_X5_58 (c5_refuse l D cI cZ d S th 2 hap) (by decide) (pzV hK rfl hB0.rc hB0) rfl hl.1 rfl (Nat.le_of_ble_eq_true rfl) dX5_copy_34 ⟨Nat.zero_le _, Nat.zero_le _⟩ rfl hS (fun q h => h) (fun H locs hB0 hz hk hS => ?_)
          exact w_i (PB := (fun H => MdAt D cI cZ d S (nI 2) H)) rfl hB0 hS hx hb hr hlocks dX5_copy_37
        · skip
          have e9 : sp_copy S (nI (b)) (nI (o)) = (0, nI (S.1 b).length, clB (upB S o (S.1 b)) o (-1)) := by unfold sp_copy; rw [hbk, hbo]; exact if_neg (by omega)
          rw [e9]
          refine m_start (by decide) (Nat.le_of_ble_eq_true rfl) ?_
          intro p e s m below meth c hx hb hr hG hown hlocks hml hB ls hl
          have hl : lv_has ls 4 [(0, .ref (d 0)), (1, .int (nI (b))), (2, .int (nI (o)))] := hl
          obtain ⟨hB0, hK⟩ := hB
          have hS : va_S (Ao d 9) s.heap s.heap [] := va_S.rf
          refine lv_iload_n hx hb dX5_copy_0 rfl (lv_at hl 1 rfl) ?_
          refine k1_S hx hb hml hown hG cs_X5_68 (by have h := c5_isBook l D (nI (b)); rw [rch_in (by omega) (by decide)] at h; exact h) (by decide) (pzS (hK.sub (tys' := []) [] rfl) trivial) rfl hl.1 rfl (Nat.le_of_ble_eq_true rfl) dX5_copy_1 ⟨Nat.zero_le _, Nat.zero_le _⟩ rfl ?_
          refine x_ifb_eq (tgt := 14) hx hb dX5_copy_4 (by decide) (fun zc1 => False.elim (by first | exact absurd zc1 (by decide) | omega | (simp_all; done))) (fun zc1 => ?_)
          refine lv_iload_n hx hb dX5_copy_7 rfl (lv_at hl 2 rfl) ?_
          refine k1_S hx hb hml hown hG cs_X5_68 (by have h := c5_isBook l D (nI (o)); rw [rch_in (by omega) (by decide)] at h; exact h) (by decide) (pzS (hK.sub (tys' := []) [] rfl) trivial) rfl hl.1 rfl (Nat.le_of_ble_eq_true rfl) dX5_copy_8 ⟨Nat.zero_le _, Nat.zero_le _⟩ rfl ?_
          refine x_ifb_ne (tgt := 20) hx hb dX5_copy_11 (by decide) (fun zc2 => ?_) (fun zc2 => False.elim (by first | exact absurd zc2 (by decide) | omega | (simp_all; done)))
          refine lv_iload_n hx hb dX5_copy_20 rfl (lv_at hl 2 rfl) ?_
          refine k1_S hx hb hml hown hG cs_X5_86 (by have h := c5_isPlain l D (nI (o)); rw [rch_in (by omega) (by decide)] at h; exact h) (by decide) (pzS (hK.sub (tys' := []) [] rfl) trivial) rfl hl.1 rfl (Nat.le_of_ble_eq_true rfl) dX5_copy_21 ⟨Nat.zero_le _, Nat.zero_le _⟩ rfl ?_
          refine x_ifb_eq (tgt := 32) hx hb dX5_copy_24 (by decide) (fun zc3 => False.elim (by first | exact absurd zc3 (by decide) | omega | (simp_all; done))) (fun zc3 => ?_)
          refine lv_iload_n hx hb dX5_copy_27 rfl (lv_at hl 1 rfl) ?_
          refine lv_iload_n hx hb dX5_copy_28 rfl (lv_at hl 2 rfl) ?_
          refine x_cmp_ne (tgt := 38) hx hb dX5_copy_29 (by decide) (by omega) (by omega) (fun zc4 => ?_) (fun zc4 => False.elim (by first | omega | contradiction | exact absurd zc4 (m1_ne _ (by omega)) | exact absurd zc4 (by decide) | exact absurd (Eq.symm zc4) (m1_ne _ (by omega)) | (simp_all; done)))
          obtain ⟨K, V, sz, cb, ck, ca, it, ou, hP, hMB, hMC, hMO⟩ := id hB0
          have hP : va_P D vwCl [(d 0, .inr (5, [.ref (d 1), .ref (d 2), .ref (d 3), .int (nI (S.2.1)), .int (th), .ref (d 4), .ref (d 5), .ref (d 6), .ref (d 7), .ref (d 8), .int (nI (S.2.2.2.length))])), (d 1, .inl (cI, (804, .inl K))), (d 2, .inl (cI, (804, .inl V))), (d 3, .inl (cI, (4, .inl sz))), (d 4, .inl (cI, (3, .inl cb))), (d 5, .inl (cI, (3, .inl ck))), (d 6, .inl (cI, (3, .inl ca))), (d 7, .inl (cZ, (3, .inl it))), (d 8, .inl (cI, (6000, .inl ou)))] s.heap := hP
          have hD : va_D (Ao d 9) [(d 0, .inr (5, [.ref (d 1), .ref (d 2), .ref (d 3), .int (nI (S.2.1)), .int (th), .ref (d 4), .ref (d 5), .ref (d 6), .ref (d 7), .ref (d 8), .int (nI (S.2.2.2.length))])), (d 1, .inl (cI, (804, .inl K))), (d 2, .inl (cI, (804, .inl V))), (d 3, .inl (cI, (4, .inl sz))), (d 4, .inl (cI, (3, .inl cb))), (d 5, .inl (cI, (3, .inl ck))), (d 6, .inl (cI, (3, .inl ca))), (d 7, .inl (cZ, (3, .inl it))), (d 8, .inl (cI, (6000, .inl ou)))] := hap.D9
          refine lv_iconst (v := nI 0) hx hb dX5_copy_38 (by decide) ?_
          refine lv_istore_n (lv' := [(3, .int (nI (0))), (0, .ref (d 0)), (1, .int (nI (b))), (2, .int (nI (o)))]) hx hb dX5_copy_39 rfl hl (by decide) rfl (fun ls hl => ?_)
          suffices KK : ∀ (n i : Nat) (K' V' : Nat → Int32), (S.1 b).length < i + n → i ≤ (S.1 b).length → (∀ j, j < i → K' (201 * o + j) = kf (S.1 b) j ∧ V' (201 * o + j) = vf (S.1 b) j) → (∀ q, (q < 201 * o ∨ 201 * o + 201 ≤ q) → K' q = K q ∧ V' q = V q) → ∀ (H : Heap) (locs : List Loc), va_P D vwCl [(d 0, .inr (5, [.ref (d 1), .ref (d 2), .ref (d 3), .int (nI (S.2.1)), .int (th), .ref (d 4), .ref (d 5), .ref (d 6), .ref (d 7), .ref (d 8), .int (nI (S.2.2.2.length))])), (d 1, .inl (cI, (804, .inl K'))), (d 2, .inl (cI, (804, .inl V'))), (d 3, .inl (cI, (4, .inl sz))), (d 4, .inl (cI, (3, .inl cb))), (d 5, .inl (cI, (3, .inl ck))), (d 6, .inl (cI, (3, .inl ca))), (d 7, .inl (cZ, (3, .inl it))), (d 8, .inl (cI, (6000, .inl ou)))] H → va_D (Ao d 9) [(d 0, .inr (5, [.ref (d 1), .ref (d 2), .ref (d 3), .int (nI (S.2.1)), .int (th), .ref (d 4), .ref (d 5), .ref (d 6), .ref (d 7), .ref (d 8), .int (nI (S.2.2.2.length))])), (d 1, .inl (cI, (804, .inl K'))), (d 2, .inl (cI, (804, .inl V'))), (d 3, .inl (cI, (4, .inl sz))), (d 4, .inl (cI, (3, .inl cb))), (d 5, .inl (cI, (3, .inl ck))), (d 6, .inl (cI, (3, .inl ca))), (d 7, .inl (cZ, (3, .inl it))), (d 8, .inl (cI, (6000, .inl ou)))] → va_S (Ao d 9) s.heap H locs → ∀ ls : Array Slot, lv_has ls 4 [(3, .int (nI (i))), (0, .ref (d 0)), (1, .int (nI (b))), (2, .int (nI (o)))] → W p l e (rmN 5) s m [.ref (d 0), .int (nI (b)), .int (nI (o))].toArray below meth c H locs 0 0 (MQ below (Wq (some (.int (nI (S.1 b).length))) (fun H => MdAt D cI cZ d (clB (upB S o (S.1 b)) o (-1)) (nI 0) H) (Ao d 9)) [.ref (d 0), .int (nI (b)), .int (nI (o))].toArray s 0 0 (Ao d 9)) (F0 m 40 ls []) from KK ((S.1 b).length + 1) 0 K V (by omega) (by omega) (fun j hj => absurd hj (Nat.not_lt_zero j)) (fun q _ => ⟨rfl, rfl⟩) s.heap [] hP hD hS ls (lv_sub hl [0, 1, 2, 3] rfl)
          clear hP hD hS hl
          intro n
          induction n with
          | zero => intro i K' V' h1 h2; omega
          | succ n ih =>
            intro i K' V' h1 h2 hkk hoo H locs hP hD hS ls hl
            refine lv_iload_n hx hb dX5_copy_40 rfl (lv_at hl 0 rfl) ?_
            refine lv_aload_n hx hb dX5_copy_41 rfl (lv_at hl 1 rfl) ?_
            refine gf_X5_16 hx hb hG hown hK hP 0 rfl rfl dX5_copy_42 ?_
            refine lv_iload_n hx hb dX5_copy_45 rfl (lv_at hl 2 rfl) ?_
            refine x_iald hx hb hK hP 3 0 rfl rfl (by omega) (by decide) dX5_copy_46 ?_
            rw [(hMB (b) (by omega)).1]
            refine x_cmp_ge (tgt := 104) hx hb dX5_copy_47 (by decide) (by omega) (by omega) (fun c1 => ?_) (fun c1 => ?_)
            · have ei : i = (S.1 b).length := by omega
              rw [ei] at hkk
              refine lv_aload_n hx hb dX5_copy_104 rfl (lv_at hl 1 rfl) ?_
              refine gf_X5_16 hx hb hG hown hK hP 0 rfl rfl dX5_copy_105 ?_
              refine lv_iload_n hx hb dX5_copy_108 rfl (lv_at hl 3 rfl) ?_
              refine lv_aload_n hx hb dX5_copy_109 rfl (lv_at hl 1 rfl) ?_
              refine gf_X5_16 hx hb hG hown hK hP 0 rfl rfl dX5_copy_110 ?_
              refine lv_iload_n hx hb dX5_copy_113 rfl (lv_at hl 2 rfl) ?_
              refine x_iald hx hb hK hP 3 0 rfl rfl (by omega) (by decide) dX5_copy_114 ?_
              rw [(hMB (b) (by omega)).1]
              refine x_iast hx hb hK hP hD hS 3 0 rfl rfl (by omega) (by decide) dX5_copy_115 (fun H locs hP hD hS => ?_)
              have hP : va_P D vwCl [(d 0, .inr (5, [.ref (d 1), .ref (d 2), .ref (d 3), .int (nI (S.2.1)), .int (th), .ref (d 4), .ref (d 5), .ref (d 6), .ref (d 7), .ref (d 8), .int (nI (S.2.2.2.length))])), (d 1, .inl (cI, (804, .inl K'))), (d 2, .inl (cI, (804, .inl V'))), (d 3, .inl (cI, (4, .inl (upd sz (o) (nI ((S.1 b).length)))))), (d 4, .inl (cI, (3, .inl cb))), (d 5, .inl (cI, (3, .inl ck))), (d 6, .inl (cI, (3, .inl ca))), (d 7, .inl (cZ, (3, .inl it))), (d 8, .inl (cI, (6000, .inl ou)))] H := hP
              have hD : va_D (Ao d 9) [(d 0, .inr (5, [.ref (d 1), .ref (d 2), .ref (d 3), .int (nI (S.2.1)), .int (th), .ref (d 4), .ref (d 5), .ref (d 6), .ref (d 7), .ref (d 8), .int (nI (S.2.2.2.length))])), (d 1, .inl (cI, (804, .inl K'))), (d 2, .inl (cI, (804, .inl V'))), (d 3, .inl (cI, (4, .inl (upd sz (o) (nI ((S.1 b).length)))))), (d 4, .inl (cI, (3, .inl cb))), (d 5, .inl (cI, (3, .inl ck))), (d 6, .inl (cI, (3, .inl ca))), (d 7, .inl (cZ, (3, .inl it))), (d 8, .inl (cI, (6000, .inl ou)))] := hD
              refine lv_aload_n hx hb dX5_copy_116 rfl (lv_at hl 1 rfl) ?_
              refine lv_iload_n hx hb dX5_copy_117 rfl (lv_at hl 3 rfl) ?_
              refine lv_iconst (v := (-1)) hx hb dX5_copy_118 (by decide) ?_
              have hB0 : MdAt D cI cZ d (upB S o (S.1 b)) th H := ⟨K', V', _, cb, ck, ca, it, ou, hP, hMB.cpy (b := o) (S.1 b) (by omega) hkk hoo, hMC, hMO⟩
              refine k2_V hx hb hml hown hG cs_X5_62 (c5_closes l D cI cZ d (upB S o (S.1 b)) th o (-1) (by omega) hCC hap) (by decide) (pzV hK rfl hB0.rc hB0) rfl hl.1 rfl (Nat.le_of_ble_eq_true rfl) dX5_copy_119 ⟨Nat.zero_le _, Nat.zero_le _⟩ rfl hS (fun q h => h) (fun H locs hB0 hz hk hS => ?_)
              refine lv_aload_n hx hb dX5_copy_122 rfl (lv_at hl 1 rfl) ?_
              refine lv_aload_n hx hb dX5_copy_123 rfl (lv_at hl 1 rfl) ?_
              obtain ⟨K, V, sz, cb, ck, ca, it, ou, hP, hMB, hMC, hMO⟩ := id hB0
              have hMB : MdB (upB S o (S.1 b)).1 K V sz := hMB
              have hP : va_P D vwCl [(d 0, .inr (5, [.ref (d 1), .ref (d 2), .ref (d 3), .int (nI (S.2.1)), .int (th), .ref (d 4), .ref (d 5), .ref (d 6), .ref (d 7), .ref (d 8), .int (nI (S.2.2.2.length))])), (d 1, .inl (cI, (804, .inl K))), (d 2, .inl (cI, (804, .inl V))), (d 3, .inl (cI, (4, .inl sz))), (d 4, .inl (cI, (3, .inl cb))), (d 5, .inl (cI, (3, .inl ck))), (d 6, .inl (cI, (3, .inl ca))), (d 7, .inl (cZ, (3, .inl it))), (d 8, .inl (cI, (6000, .inl ou)))] H := hP
              have hD : va_D (Ao d 9) [(d 0, .inr (5, [.ref (d 1), .ref (d 2), .ref (d 3), .int (nI (S.2.1)), .int (th), .ref (d 4), .ref (d 5), .ref (d 6), .ref (d 7), .ref (d 8), .int (nI (S.2.2.2.length))])), (d 1, .inl (cI, (804, .inl K))), (d 2, .inl (cI, (804, .inl V))), (d 3, .inl (cI, (4, .inl sz))), (d 4, .inl (cI, (3, .inl cb))), (d 5, .inl (cI, (3, .inl ck))), (d 6, .inl (cI, (3, .inl ca))), (d 7, .inl (cZ, (3, .inl it))), (d 8, .inl (cI, (6000, .inl ou)))] := hap.D9
              refine gf_X5_16 hx hb hG hown hK hP 0 rfl rfl dX5_copy_124 ?_
              refine lv_iload_n hx hb dX5_copy_127 rfl (lv_at hl 3 rfl) ?_
              refine x_iald hx hb hK hP 3 0 rfl rfl (by omega) (by decide) dX5_copy_128 ?_
              rw [(hMB (o) (by omega)).1]
              refine k2_V hx hb hml hown hG cs_X5_65 (c5_told l D cI cZ d (clB (upB S o (S.1 b)) o (-1)) th (nI (((upB S o (S.1 b)).1 o).length)) hap) (by decide) (pzV hK rfl hB0.rc hB0) rfl hl.1 rfl (Nat.le_of_ble_eq_true rfl) dX5_copy_129 ⟨Nat.zero_le _, Nat.zero_le _⟩ rfl hS (fun q h => h) (fun H locs hB0 hz hk hS => ?_)
              exact w_i (PB := (fun H => MdAt D cI cZ d (clB (upB S o (S.1 b)) o (-1)) (nI 0) H)) (by rw [upB_at]) hB0 hS hx hb hr hlocks dX5_copy_132
            · refine lv_aload_n hx hb dX5_copy_50 rfl (lv_at hl 1 rfl) ?_
              refine gf_X5_7 hx hb hG hown hK hP 0 rfl rfl dX5_copy_51 ?_
              refine lv_sipush (v := nI 201) hx hb dX5_copy_54 (by decide) ?_
              refine lv_iload_n hx hb dX5_copy_57 rfl (lv_at hl 3 rfl) ?_
              refine x_imul (v := nI (201 * o)) hx hb dX5_copy_58 (pk_mul _ _) ?_
              refine lv_iload_n hx hb dX5_copy_59 rfl (lv_at hl 0 rfl) ?_
              refine x_iadd (v := nI ((201 * o) + i)) hx hb dX5_copy_60 (nI_add _ _) ?_
              refine lv_aload_n hx hb dX5_copy_61 rfl (lv_at hl 1 rfl) ?_
              refine gf_X5_7 hx hb hG hown hK hP 0 rfl rfl dX5_copy_62 ?_
              refine lv_sipush (v := nI 201) hx hb dX5_copy_65 (by decide) ?_
              refine lv_iload_n hx hb dX5_copy_68 rfl (lv_at hl 2 rfl) ?_
              refine x_imul (v := nI (201 * b)) hx hb dX5_copy_69 (pk_mul _ _) ?_
              refine lv_iload_n hx hb dX5_copy_70 rfl (lv_at hl 0 rfl) ?_
              refine x_iadd (v := nI ((201 * b) + i)) hx hb dX5_copy_71 (nI_add _ _) ?_
              refine x_iald hx hb hK hP 1 0 rfl rfl (by omega) (by decide) dX5_copy_72 ?_
              rw [show K' ((201 * b) + i) = kf (S.1 b) i from by rw [(hoo ((201 * b) + i) (by omega)).1]; exact ((hMB b (by omega)).2.2 i (by omega)).1]
              refine x_iast hx hb hK hP hD hS 1 0 rfl rfl (by omega) (by decide) dX5_copy_73 (fun H locs hP hD hS => ?_)
              have hP : va_P D vwCl [(d 0, .inr (5, [.ref (d 1), .ref (d 2), .ref (d 3), .int (nI (S.2.1)), .int (th), .ref (d 4), .ref (d 5), .ref (d 6), .ref (d 7), .ref (d 8), .int (nI (S.2.2.2.length))])), (d 1, .inl (cI, (804, .inl (upd K' ((201 * o) + i) (kf (S.1 b) i))))), (d 2, .inl (cI, (804, .inl V'))), (d 3, .inl (cI, (4, .inl sz))), (d 4, .inl (cI, (3, .inl cb))), (d 5, .inl (cI, (3, .inl ck))), (d 6, .inl (cI, (3, .inl ca))), (d 7, .inl (cZ, (3, .inl it))), (d 8, .inl (cI, (6000, .inl ou)))] H := hP
              have hD : va_D (Ao d 9) [(d 0, .inr (5, [.ref (d 1), .ref (d 2), .ref (d 3), .int (nI (S.2.1)), .int (th), .ref (d 4), .ref (d 5), .ref (d 6), .ref (d 7), .ref (d 8), .int (nI (S.2.2.2.length))])), (d 1, .inl (cI, (804, .inl (upd K' ((201 * o) + i) (kf (S.1 b) i))))), (d 2, .inl (cI, (804, .inl V'))), (d 3, .inl (cI, (4, .inl sz))), (d 4, .inl (cI, (3, .inl cb))), (d 5, .inl (cI, (3, .inl ck))), (d 6, .inl (cI, (3, .inl ca))), (d 7, .inl (cZ, (3, .inl it))), (d 8, .inl (cI, (6000, .inl ou)))] := hD
              refine lv_aload_n hx hb dX5_copy_74 rfl (lv_at hl 1 rfl) ?_
              refine gf_X5_13 hx hb hG hown hK hP 0 rfl rfl dX5_copy_75 ?_
              refine lv_sipush (v := nI 201) hx hb dX5_copy_78 (by decide) ?_
              refine lv_iload_n hx hb dX5_copy_81 rfl (lv_at hl 3 rfl) ?_
              refine x_imul (v := nI (201 * o)) hx hb dX5_copy_82 (pk_mul _ _) ?_
              refine lv_iload_n hx hb dX5_copy_83 rfl (lv_at hl 0 rfl) ?_
              refine x_iadd (v := nI ((201 * o) + i)) hx hb dX5_copy_84 (nI_add _ _) ?_
              refine lv_aload_n hx hb dX5_copy_85 rfl (lv_at hl 1 rfl) ?_
              refine gf_X5_13 hx hb hG hown hK hP 0 rfl rfl dX5_copy_86 ?_
              refine lv_sipush (v := nI 201) hx hb dX5_copy_89 (by decide) ?_
              refine lv_iload_n hx hb dX5_copy_92 rfl (lv_at hl 2 rfl) ?_
              refine x_imul (v := nI (201 * b)) hx hb dX5_copy_93 (pk_mul _ _) ?_
              refine lv_iload_n hx hb dX5_copy_94 rfl (lv_at hl 0 rfl) ?_
              refine x_iadd (v := nI ((201 * b) + i)) hx hb dX5_copy_95 (nI_add _ _) ?_
              refine x_iald hx hb hK hP 2 0 rfl rfl (by omega) (by decide) dX5_copy_96 ?_
              rw [show V' ((201 * b) + i) = vf (S.1 b) i from by rw [(hoo ((201 * b) + i) (by omega)).2]; exact ((hMB b (by omega)).2.2 i (by omega)).2]
              refine x_iast hx hb hK hP hD hS 2 0 rfl rfl (by omega) (by decide) dX5_copy_97 (fun H locs hP hD hS => ?_)
              have hP : va_P D vwCl [(d 0, .inr (5, [.ref (d 1), .ref (d 2), .ref (d 3), .int (nI (S.2.1)), .int (th), .ref (d 4), .ref (d 5), .ref (d 6), .ref (d 7), .ref (d 8), .int (nI (S.2.2.2.length))])), (d 1, .inl (cI, (804, .inl (upd K' ((201 * o) + i) (kf (S.1 b) i))))), (d 2, .inl (cI, (804, .inl (upd V' ((201 * o) + i) (vf (S.1 b) i))))), (d 3, .inl (cI, (4, .inl sz))), (d 4, .inl (cI, (3, .inl cb))), (d 5, .inl (cI, (3, .inl ck))), (d 6, .inl (cI, (3, .inl ca))), (d 7, .inl (cZ, (3, .inl it))), (d 8, .inl (cI, (6000, .inl ou)))] H := hP
              have hD : va_D (Ao d 9) [(d 0, .inr (5, [.ref (d 1), .ref (d 2), .ref (d 3), .int (nI (S.2.1)), .int (th), .ref (d 4), .ref (d 5), .ref (d 6), .ref (d 7), .ref (d 8), .int (nI (S.2.2.2.length))])), (d 1, .inl (cI, (804, .inl (upd K' ((201 * o) + i) (kf (S.1 b) i))))), (d 2, .inl (cI, (804, .inl (upd V' ((201 * o) + i) (vf (S.1 b) i))))), (d 3, .inl (cI, (4, .inl sz))), (d 4, .inl (cI, (3, .inl cb))), (d 5, .inl (cI, (3, .inl ck))), (d 6, .inl (cI, (3, .inl ca))), (d 7, .inl (cZ, (3, .inl it))), (d 8, .inl (cI, (6000, .inl ou)))] := hD
              refine x_iinc (k := 0) (lv' := [(3, .int (nI (i + 1))), (0, .ref (d 0)), (1, .int (nI (b))), (2, .int (nI (o)))]) hx hb dX5_copy_98 hl rfl (by decide) rfl (fun ls hl => ?_)
              refine lv_goto (tgt := 40) hx hb dX5_copy_101 (by decide) ?_
              exact ih (i + 1) _ _ (by omega) (by omega) (fun j hj => by
                rw [upd_at, upd_at]
                by_cases e : j = i
                · subst e; rw [if_pos rfl, if_pos rfl]; exact ⟨rfl, rfl⟩
                · rw [if_neg (by omega), if_neg (by omega)]; exact hkk j (by omega)) (fun q hq => by rw [upd_at, upd_at, if_neg (by omega), if_neg (by omega)]; exact hoo q hq) H locs hP hD hS ls (lv_sub hl [0, 1, 2, 3] rfl)
    · skip
      have e9 : sp_copy S (nI (b)) y = (1, 0, S) := by simp [sp_copy, sp_copy, hbk, hbo]
      rw [e9]
      refine m_start (by decide) (Nat.le_of_ble_eq_true rfl) ?_
      intro p e s m below meth c hx hb hr hG hown hlocks hml hB ls hl
      have hl : lv_has ls 4 [(0, .ref (d 0)), (1, .int (nI (b))), (2, .int (y))] := hl
      obtain ⟨hB0, hK⟩ := hB
      have hS : va_S (Ao d 9) s.heap s.heap [] := va_S.rf
      refine lv_iload_n hx hb dX5_copy_0 rfl (lv_at hl 1 rfl) ?_
      refine k1_S hx hb hml hown hG cs_X5_68 (by have h := c5_isBook l D (nI (b)); rw [rch_in (by omega) (by decide)] at h; exact h) (by decide) (pzS (hK.sub (tys' := []) [] rfl) trivial) rfl hl.1 rfl (Nat.le_of_ble_eq_true rfl) dX5_copy_1 ⟨Nat.zero_le _, Nat.zero_le _⟩ rfl ?_
      refine x_ifb_eq (tgt := 14) hx hb dX5_copy_4 (by decide) (fun zc1 => False.elim (by first | exact absurd zc1 (by decide) | omega | (simp_all; done))) (fun zc1 => ?_)
      refine lv_iload_n hx hb dX5_copy_7 rfl (lv_at hl 2 rfl) ?_
      refine k1_S hx hb hml hown hG cs_X5_68 (by have h := c5_isBook l D y; rw [hno] at h; exact h) (by decide) (pzS (hK.sub (tys' := []) [] rfl) trivial) rfl hl.1 rfl (Nat.le_of_ble_eq_true rfl) dX5_copy_8 ⟨Nat.zero_le _, Nat.zero_le _⟩ rfl ?_
      refine x_ifb_ne (tgt := 20) hx hb dX5_copy_11 (by decide) (fun zc2 => False.elim (by first | exact absurd zc2 (by decide) | omega | (simp_all; done))) (fun zc2 => ?_)
      refine lv_aload_n hx hb dX5_copy_14 rfl (lv_at hl 0 rfl) ?_
      refine lv_iconst (v := nI 1) hx hb dX5_copy_15 (by decide) ?_
      refine k2_V hx hb hml hown hG cs_X5_58 (c5_refuse l D cI cZ d S th 1 hap) (by decide) (pzV hK rfl hB0.rc hB0) rfl hl.1 rfl (Nat.le_of_ble_eq_true rfl) dX5_copy_16 ⟨Nat.zero_le _, Nat.zero_le _⟩ rfl hS (fun q h => h) (fun H locs hB0 hz hk hS => ?_)
      exact w_i (PB := (fun H => MdAt D cI cZ d S (nI 1) H)) rfl hB0 hS hx hb hr hlocks dX5_copy_19
  · skip
    have e9 : sp_copy S x y = (1, 0, S) := by simp [sp_copy, hbk]
    rw [e9]
    refine m_start (by decide) (Nat.le_of_ble_eq_true rfl) ?_
    intro p e s m below meth c hx hb hr hG hown hlocks hml hB ls hl
    have hl : lv_has ls 4 [(0, .ref (d 0)), (1, .int (x)), (2, .int (y))] := hl
    obtain ⟨hB0, hK⟩ := hB
    have hS : va_S (Ao d 9) s.heap s.heap [] := va_S.rf
    refine lv_iload_n hx hb dX5_copy_0 rfl (lv_at hl 1 rfl) ?_
    refine k1_S hx hb hml hown hG cs_X5_68 (by have h := c5_isBook l D x; rw [hno] at h; exact h) (by decide) (pzS (hK.sub (tys' := []) [] rfl) trivial) rfl hl.1 rfl (Nat.le_of_ble_eq_true rfl) dX5_copy_1 ⟨Nat.zero_le _, Nat.zero_le _⟩ rfl ?_
    refine x_ifb_eq (tgt := 14) hx hb dX5_copy_4 (by decide) (fun zc1 => ?_) (fun zc1 => False.elim (by first | exact absurd zc1 (by decide) | omega | (simp_all; done)))
    refine lv_aload_n hx hb dX5_copy_14 rfl (lv_at hl 0 rfl) ?_
    refine lv_iconst (v := nI 1) hx hb dX5_copy_15 (by decide) ?_
    refine k2_V hx hb hml hown hG cs_X5_58 (c5_refuse l D cI cZ d S th 1 hap) (by decide) (pzV hK rfl hB0.rc hB0) rfl hl.1 rfl (Nat.le_of_ble_eq_true rfl) dX5_copy_16 ⟨Nat.zero_le _, Nat.zero_le _⟩ rfl hS (fun q h => h) (fun H locs hB0 hz hk hS => ?_)
    exact w_i (PB := (fun H => MdAt D cI cZ d S (nI 1) H)) rfl hB0 hS hx hb hr hlocks dX5_copy_19
set_option maxHeartbeats 4000000 in
set_option maxRecDepth 100000 in
theorem m_sum (l : Launch) (D : va_G) (cI cZ : ClassId) (d : Nat → Nat) (S : St) (th : Int32) (x : Int32) (hI : Inv S) (hap : Ap d 9) : Met l yX5_sum (ws_ yX5_sum cX5_sum 5 (some .long)) (rmN 4) (va_Pc [.ref (d 0), .int x] (pz D [(cI, .int), (cZ, .boolean)] (fun H => MdAt D cI cZ d S th H))) (Wq (some (.long (sp_sum S x).2.1)) (fun H => MdAt D cI cZ d (sp_sum S x).2.2 (nI (sp_sum S x).1) H) (Ao d 9)) 0 0 (Ao d 9) := by
  have hbd2 : S.2.1 ≤ 40 := hI.2.2.2.1
  have hCC : ∀ cu, cu < 3 → ∀ y, S.2.2.1 cu = some y → y.1 < 4 := fun cu hcu y hy => by have h := hI.2.2.2.2.1 cu hcu; rw [hy] at h; exact h.1
  rcases bkn_cases 4 (by decide) x with ⟨b, hb4, rfl, hbk⟩ | ⟨hbk, hno⟩
  · have hN := hI.1 b hb4
    have e9 : sp_sum S (nI (b)) = (0, smL (S.1 b) (S.1 b).length, S) := by simp [sp_sum, askB, hbk]
    rw [e9]
    refine m_start (by decide) (Nat.le_of_ble_eq_true rfl) ?_
    intro p e s m below meth c hx hb hr hG hown hlocks hml hB ls hl
    have hl : lv_has ls 5 [(0, .ref (d 0)), (1, .int (nI (b)))] := hl
    obtain ⟨hB0, hK⟩ := hB
    have hS : va_S (Ao d 9) s.heap s.heap [] := va_S.rf
    refine lv_aload_n hx hb dX5_sum_0 rfl (lv_at hl 0 rfl) ?_
    refine lv_iload_n hx hb dX5_sum_1 rfl (lv_at hl 1 rfl) ?_
    refine k1_S hx hb hml hown hG cs_X5_68 (by have h := c5_isBook l D (nI (b)); rw [rch_in (by omega) (by decide)] at h; exact h) (by decide) (pzS (hK.sub (tys' := []) [] rfl) trivial) rfl hl.1 rfl (Nat.le_of_ble_eq_true rfl) dX5_sum_2 ⟨Nat.zero_le _, Nat.zero_le _⟩ rfl ?_
    refine x_ifb_eq (tgt := 12) hx hb dX5_sum_5 (by decide) (fun zc1 => False.elim (by first | exact absurd zc1 (by decide) | omega | (simp_all; done))) (fun zc1 => ?_)
    refine lv_iconst (v := nI 0) hx hb dX5_sum_8 (by decide) ?_
    refine lv_goto (tgt := 13) hx hb dX5_sum_9 (by decide) ?_
    obtain ⟨K, V, sz, cb, ck, ca, it, ou, hP, hMB, hMC, hMO⟩ := id hB0
    have hP : va_P D vwCl [(d 0, .inr (5, [.ref (d 1), .ref (d 2), .ref (d 3), .int (nI (S.2.1)), .int (th), .ref (d 4), .ref (d 5), .ref (d 6), .ref (d 7), .ref (d 8), .int (nI (S.2.2.2.length))])), (d 1, .inl (cI, (804, .inl K))), (d 2, .inl (cI, (804, .inl V))), (d 3, .inl (cI, (4, .inl sz))), (d 4, .inl (cI, (3, .inl cb))), (d 5, .inl (cI, (3, .inl ck))), (d 6, .inl (cI, (3, .inl ca))), (d 7, .inl (cZ, (3, .inl it))), (d 8, .inl (cI, (6000, .inl ou)))] s.heap := hP
    have hD : va_D (Ao d 9) [(d 0, .inr (5, [.ref (d 1), .ref (d 2), .ref (d 3), .int (nI (S.2.1)), .int (th), .ref (d 4), .ref (d 5), .ref (d 6), .ref (d 7), .ref (d 8), .int (nI (S.2.2.2.length))])), (d 1, .inl (cI, (804, .inl K))), (d 2, .inl (cI, (804, .inl V))), (d 3, .inl (cI, (4, .inl sz))), (d 4, .inl (cI, (3, .inl cb))), (d 5, .inl (cI, (3, .inl ck))), (d 6, .inl (cI, (3, .inl ca))), (d 7, .inl (cZ, (3, .inl it))), (d 8, .inl (cI, (6000, .inl ou)))] := hap.D9
    refine pf_X5_39 hx hb hG hown hK hP hD hS 0 rfl (v := .int (nI (0))) rfl rfl (Nat.le_of_ble_eq_true rfl) dX5_sum_13 (fun H locs hP hD hS => ?_)
    have hP : va_P D vwCl [(d 0, .inr (5, [.ref (d 1), .ref (d 2), .ref (d 3), .int (nI (S.2.1)), .int (nI (0)), .ref (d 4), .ref (d 5), .ref (d 6), .ref (d 7), .ref (d 8), .int (nI (S.2.2.2.length))])), (d 1, .inl (cI, (804, .inl K))), (d 2, .inl (cI, (804, .inl V))), (d 3, .inl (cI, (4, .inl sz))), (d 4, .inl (cI, (3, .inl cb))), (d 5, .inl (cI, (3, .inl ck))), (d 6, .inl (cI, (3, .inl ca))), (d 7, .inl (cZ, (3, .inl it))), (d 8, .inl (cI, (6000, .inl ou)))] H := hP
    have hD : va_D (Ao d 9) [(d 0, .inr (5, [.ref (d 1), .ref (d 2), .ref (d 3), .int (nI (S.2.1)), .int (nI (0)), .ref (d 4), .ref (d 5), .ref (d 6), .ref (d 7), .ref (d 8), .int (nI (S.2.2.2.length))])), (d 1, .inl (cI, (804, .inl K))), (d 2, .inl (cI, (804, .inl V))), (d 3, .inl (cI, (4, .inl sz))), (d 4, .inl (cI, (3, .inl cb))), (d 5, .inl (cI, (3, .inl ck))), (d 6, .inl (cI, (3, .inl ca))), (d 7, .inl (cZ, (3, .inl it))), (d 8, .inl (cI, (6000, .inl ou)))] := hD
    refine lv_lconst (v := lN (0)) hx hb dX5_sum_16 (by decide) ?_
    refine lv_lstore_n (lv' := [(2, .long (lN (0))), (0, .ref (d 0)), (1, .int (nI (b)))]) hx hb dX5_sum_17 rfl hl (by decide) rfl (fun ls hl => ?_)
    refine lv_iconst (v := nI 0) hx hb dX5_sum_18 (by decide) ?_
    refine lv_istore (lv' := [(4, .int (nI (0))), (2, .long (lN (0))), (0, .ref (d 0)), (1, .int (nI (b)))]) hx hb dX5_sum_19 hl (by decide) rfl (fun ls hl => ?_)
    suffices KK : ∀ (n i : Nat), (S.1 b).length < i + n → i ≤ (S.1 b).length → ∀ ls : Array Slot, lv_has ls 5 [(4, .int (nI (i))), (2, .long (smL (S.1 b) i)), (0, .ref (d 0)), (1, .int (nI (b)))] → W p l e (rmN 4) s m [.ref (d 0), .int (nI (b))].toArray below meth c H locs 0 0 (MQ below (Wq (some (.long (smL (S.1 b) (S.1 b).length))) (fun H => MdAt D cI cZ d S (nI 0) H) (Ao d 9)) [.ref (d 0), .int (nI (b))].toArray s 0 0 (Ao d 9)) (F0 m 21 ls []) from KK ((S.1 b).length + 1) 0 (by omega) (by omega) ls (lv_sub hl [0, 1, 2, 3] rfl)
    clear hl
    intro n
    induction n with
    | zero => intro i h1 h2; omega
    | succ n ih =>
      intro i h1 h2 ls hl
      refine lv_aload_n hx hb dX5_sum_21 rfl (lv_at hl 2 rfl) ?_
      refine gf_X5_39 hx hb hG hown hK hP 0 rfl rfl dX5_sum_22 ?_
      refine x_if_ne (tgt := 87) hx hb dX5_sum_25 (by decide) (by omega) (fun zc2 => False.elim (by first | exact absurd zc2 (by decide) | omega | (simp_all; done))) (fun zc2 => ?_)
      refine lv_iload hx hb dX5_sum_28 (lv_at hl 0 rfl) ?_
      refine lv_aload_n hx hb dX5_sum_30 rfl (lv_at hl 2 rfl) ?_
      refine gf_X5_16 hx hb hG hown hK hP 0 rfl rfl dX5_sum_31 ?_
      refine lv_iload_n hx hb dX5_sum_34 rfl (lv_at hl 3 rfl) ?_
      refine x_iald hx hb hK hP 3 0 rfl rfl (by omega) (by decide) dX5_sum_35 ?_
      rw [(hMB (b) (by omega)).1]
      refine x_cmp_ge (tgt := 87) hx hb dX5_sum_36 (by decide) (by omega) (by omega) (fun c1 => ?_) (fun c1 => ?_)
      · have ei : i = (S.1 b).length := by omega
        refine lv_lload_n hx hb dX5_sum_87 rfl (lv_at hl 1 rfl) ?_
        exact w_l (PB := (fun H => MdAt D cI cZ d S (nI 0) H)) (by rw [ei]) ⟨K, V, sz, cb, ck, ca, it, ou, hP, hMB, hMC, hMO⟩ hS hx hb hr hlocks dX5_sum_88
      · refine lv_lload_n hx hb dX5_sum_39 rfl (lv_at hl 1 rfl) ?_
        refine lv_iload hx hb dX5_sum_40 (lv_at hl 0 rfl) ?_
        refine lv_i2l (v := lN (i)) hx hb dX5_sum_42 (nI_l (by omega)) ?_
        refine lv_lconst (v := lN (1)) hx hb dX5_sum_43 (by decide) ?_
        refine x_ladd (v := lN (i + 1)) hx hb dX5_sum_44 (lN_add _ _) ?_
        refine lv_aload_n hx hb dX5_sum_45 rfl (lv_at hl 2 rfl) ?_
        refine gf_X5_7 hx hb hG hown hK hP 0 rfl rfl dX5_sum_46 ?_
        refine lv_sipush (v := nI 201) hx hb dX5_sum_49 (by decide) ?_
        refine lv_iload_n hx hb dX5_sum_52 rfl (lv_at hl 3 rfl) ?_
        refine x_imul (v := nI (201 * b)) hx hb dX5_sum_53 (pk_mul _ _) ?_
        refine lv_iload hx hb dX5_sum_54 (lv_at hl 0 rfl) ?_
        refine x_iadd (v := nI ((201 * b) + i)) hx hb dX5_sum_56 (nI_add _ _) ?_
        refine x_iald hx hb hK hP 1 0 rfl rfl (by omega) (by decide) dX5_sum_57 ?_
        rw [show K ((201 * b) + i) = kf (S.1 b) i from ((hMB b (by omega)).2.2 i (by omega)).1]
        refine lv_i2l (v := Int32.toInt64 (kf (S.1 b) i)) hx hb dX5_sum_58 rfl ?_
        refine x_ldc2 (v := lN (3)) hx hb hown (hG _ kl_X5_107) dX5_sum_59 (by decide) ?_
        refine lv_aload_n hx hb dX5_sum_62 rfl (lv_at hl 2 rfl) ?_
        refine gf_X5_13 hx hb hG hown hK hP 0 rfl rfl dX5_sum_63 ?_
        refine lv_sipush (v := nI 201) hx hb dX5_sum_66 (by decide) ?_
        refine lv_iload_n hx hb dX5_sum_69 rfl (lv_at hl 3 rfl) ?_
        refine x_imul (v := nI (201 * b)) hx hb dX5_sum_70 (pk_mul _ _) ?_
        refine lv_iload hx hb dX5_sum_71 (lv_at hl 0 rfl) ?_
        refine x_iadd (v := nI ((201 * b) + i)) hx hb dX5_sum_73 (nI_add _ _) ?_
        refine x_iald hx hb hK hP 2 0 rfl rfl (by omega) (by decide) dX5_sum_74 ?_
        rw [show V ((201 * b) + i) = vf (S.1 b) i from ((hMB b (by omega)).2.2 i (by omega)).2]
        refine lv_i2l (v := Int32.toInt64 (vf (S.1 b) i)) hx hb dX5_sum_75 rfl ?_
        refine x_lmul (v := (lN (3)) * (Int32.toInt64 (vf (S.1 b) i))) hx hb dX5_sum_76 rfl ?_
        refine x_ladd (v := (Int32.toInt64 (kf (S.1 b) i)) + ((lN (3)) * (Int32.toInt64 (vf (S.1 b) i)))) hx hb dX5_sum_77 rfl ?_
        refine x_lmul (v := (lN (i + 1)) * ((Int32.toInt64 (kf (S.1 b) i)) + ((lN (3)) * (Int32.toInt64 (vf (S.1 b) i))))) hx hb dX5_sum_78 rfl ?_
        refine x_ladd (v := (smL (S.1 b) i) + ((lN (i + 1)) * ((Int32.toInt64 (kf (S.1 b) i)) + ((lN (3)) * (Int32.toInt64 (vf (S.1 b) i)))))) hx hb dX5_sum_79 rfl ?_
        refine lv_lstore_n (lv' := [(2, .long ((smL (S.1 b) i) + ((lN (i + 1)) * ((Int32.toInt64 (kf (S.1 b) i)) + ((lN (3)) * (Int32.toInt64 (vf (S.1 b) i))))))), (4, .int (nI (i))), (0, .ref (d 0)), (1, .int (nI (b)))]) hx hb dX5_sum_80 rfl hl (by decide) rfl (fun ls hl => ?_)
        refine x_iinc (k := 1) (lv' := [(4, .int (nI (i + 1))), (2, .long ((smL (S.1 b) i) + ((lN (i + 1)) * ((Int32.toInt64 (kf (S.1 b) i)) + ((lN (3)) * (Int32.toInt64 (vf (S.1 b) i))))))), (0, .ref (d 0)), (1, .int (nI (b)))]) hx hb dX5_sum_81 hl rfl (by decide) rfl (fun ls hl => ?_)
        refine lv_goto (tgt := 21) hx hb dX5_sum_84 (by decide) ?_
        exact ih (i + 1) (by omega) (by omega) ls (lv_sub hl [0, 1, 2, 3] rfl)
  · skip
    have e9 : sp_sum S x = (1, lN 0, S) := by simp [sp_sum, askB, hbk]
    rw [e9]
    refine m_start (by decide) (Nat.le_of_ble_eq_true rfl) ?_
    intro p e s m below meth c hx hb hr hG hown hlocks hml hB ls hl
    have hl : lv_has ls 5 [(0, .ref (d 0)), (1, .int (x))] := hl
    obtain ⟨hB0, hK⟩ := hB
    have hS : va_S (Ao d 9) s.heap s.heap [] := va_S.rf
    refine lv_aload_n hx hb dX5_sum_0 rfl (lv_at hl 0 rfl) ?_
    refine lv_iload_n hx hb dX5_sum_1 rfl (lv_at hl 1 rfl) ?_
    refine k1_S hx hb hml hown hG cs_X5_68 (by have h := c5_isBook l D x; rw [hno] at h; exact h) (by decide) (pzS (hK.sub (tys' := []) [] rfl) trivial) rfl hl.1 rfl (Nat.le_of_ble_eq_true rfl) dX5_sum_2 ⟨Nat.zero_le _, Nat.zero_le _⟩ rfl ?_
    refine x_ifb_eq (tgt := 12) hx hb dX5_sum_5 (by decide) (fun zc1 => ?_) (fun zc1 => False.elim (by first | exact absurd zc1 (by decide) | omega | (simp_all; done)))
    refine lv_iconst (v := nI 1) hx hb dX5_sum_12 (by decide) ?_
    obtain ⟨K, V, sz, cb, ck, ca, it, ou, hP, hMB, hMC, hMO⟩ := id hB0
    have hP : va_P D vwCl [(d 0, .inr (5, [.ref (d 1), .ref (d 2), .ref (d 3), .int (nI (S.2.1)), .int (th), .ref (d 4), .ref (d 5), .ref (d 6), .ref (d 7), .ref (d 8), .int (nI (S.2.2.2.length))])), (d 1, .inl (cI, (804, .inl K))), (d 2, .inl (cI, (804, .inl V))), (d 3, .inl (cI, (4, .inl sz))), (d 4, .inl (cI, (3, .inl cb))), (d 5, .inl (cI, (3, .inl ck))), (d 6, .inl (cI, (3, .inl ca))), (d 7, .inl (cZ, (3, .inl it))), (d 8, .inl (cI, (6000, .inl ou)))] s.heap := hP
    have hD : va_D (Ao d 9) [(d 0, .inr (5, [.ref (d 1), .ref (d 2), .ref (d 3), .int (nI (S.2.1)), .int (th), .ref (d 4), .ref (d 5), .ref (d 6), .ref (d 7), .ref (d 8), .int (nI (S.2.2.2.length))])), (d 1, .inl (cI, (804, .inl K))), (d 2, .inl (cI, (804, .inl V))), (d 3, .inl (cI, (4, .inl sz))), (d 4, .inl (cI, (3, .inl cb))), (d 5, .inl (cI, (3, .inl ck))), (d 6, .inl (cI, (3, .inl ca))), (d 7, .inl (cZ, (3, .inl it))), (d 8, .inl (cI, (6000, .inl ou)))] := hap.D9
    refine pf_X5_39 hx hb hG hown hK hP hD hS 0 rfl (v := .int (nI (1))) rfl rfl (Nat.le_of_ble_eq_true rfl) dX5_sum_13 (fun H locs hP hD hS => ?_)
    have hP : va_P D vwCl [(d 0, .inr (5, [.ref (d 1), .ref (d 2), .ref (d 3), .int (nI (S.2.1)), .int (nI (1)), .ref (d 4), .ref (d 5), .ref (d 6), .ref (d 7), .ref (d 8), .int (nI (S.2.2.2.length))])), (d 1, .inl (cI, (804, .inl K))), (d 2, .inl (cI, (804, .inl V))), (d 3, .inl (cI, (4, .inl sz))), (d 4, .inl (cI, (3, .inl cb))), (d 5, .inl (cI, (3, .inl ck))), (d 6, .inl (cI, (3, .inl ca))), (d 7, .inl (cZ, (3, .inl it))), (d 8, .inl (cI, (6000, .inl ou)))] H := hP
    have hD : va_D (Ao d 9) [(d 0, .inr (5, [.ref (d 1), .ref (d 2), .ref (d 3), .int (nI (S.2.1)), .int (nI (1)), .ref (d 4), .ref (d 5), .ref (d 6), .ref (d 7), .ref (d 8), .int (nI (S.2.2.2.length))])), (d 1, .inl (cI, (804, .inl K))), (d 2, .inl (cI, (804, .inl V))), (d 3, .inl (cI, (4, .inl sz))), (d 4, .inl (cI, (3, .inl cb))), (d 5, .inl (cI, (3, .inl ck))), (d 6, .inl (cI, (3, .inl ca))), (d 7, .inl (cZ, (3, .inl it))), (d 8, .inl (cI, (6000, .inl ou)))] := hD
    refine lv_lconst (v := lN (0)) hx hb dX5_sum_16 (by decide) ?_
    refine lv_lstore_n (lv' := [(2, .long (lN (0))), (0, .ref (d 0)), (1, .int (x))]) hx hb dX5_sum_17 rfl hl (by decide) rfl (fun ls hl => ?_)
    refine lv_iconst (v := nI 0) hx hb dX5_sum_18 (by decide) ?_
    refine lv_istore (lv' := [(4, .int (nI (0))), (2, .long (lN (0))), (0, .ref (d 0)), (1, .int (x))]) hx hb dX5_sum_19 hl (by decide) rfl (fun ls hl => ?_)
    refine lv_aload_n hx hb dX5_sum_21 rfl (lv_at hl 2 rfl) ?_
    refine gf_X5_39 hx hb hG hown hK hP 0 rfl rfl dX5_sum_22 ?_
    refine x_if_ne (tgt := 87) hx hb dX5_sum_25 (by decide) (by omega) (fun zc2 => ?_) (fun zc2 => False.elim (by first | exact absurd zc2 (by decide) | omega | (simp_all; done)))
    refine lv_lload_n hx hb dX5_sum_87 rfl (lv_at hl 1 rfl) ?_
    exact w_l (PB := (fun H => MdAt D cI cZ d S (nI 1) H)) rfl ⟨K, V, sz, cb, ck, ca, it, ou, hP, hMB, hMC, hMO⟩ hS hx hb hr hlocks dX5_sum_88
