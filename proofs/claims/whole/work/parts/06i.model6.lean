set_option maxHeartbeats 4000000 in
set_option maxRecDepth 100000 in
theorem c5_writesNumber (l : Launch) (D : va_G) (cI cZ : ClassId) (d : Nat → Nat) (S : St) (th : Int32) (x : Int32) (hl2 : S.2.2.2.length + 11 ≤ 6000) (hap : Ap d 9) : Met l yX5_writesNumber (ws_ yX5_writesNumber cX5_writesNumber 6 none) (rmN 1) (va_Pc [.ref (d 0), .int (x)] (pz D [(cI, .int), (cZ, .boolean)] (fun H => MdAt D cI cZ d S th H))) (Wq none (fun H => MdAt D cI cZ d (apO S (decI x)) th H) (Ao d 9)) 0 0 (Ao d 9) := by
  refine m_start (by decide) (Nat.le_of_ble_eq_true rfl) ?_
  intro p e s m below meth c hx hb hr hG hown hlocks hml hB ls hl
  have hl : lv_has ls 6 [(0, .ref (d 0)), (1, .int (x))] := hl
  obtain ⟨hB0, hK⟩ := hB
  have hS : va_S (Ao d 9) s.heap s.heap [] := va_S.rf
  obtain ⟨n, hn⟩ : ∃ n, n = x.toInt.natAbs := ⟨_, rfl⟩
  have hn2 : n ≤ 2 ^ 31 := by have := fb_rng32 x; omega
  have hS : va_S (Ao d 9) s.heap s.heap [] := hS
  have TAIL : ∀ (X : List Int32) (H : Heap) (locs : List Loc), X ++ dgs (ndg n) n = decI x → X.length ≤ 1 → MdAt D cI cZ d (apO S X) th H → va_S (Ao d 9) s.heap H locs → ∀ ls : Array Slot, lv_has ls 6 [(2, .long (lN (n))), (0, .ref (d 0)), (1, .int (x))] → W p l e (rmN 1) s m [.ref (d 0), .int (x)].toArray below meth c H locs 0 0 (MQ below (Wq none (fun H => MdAt D cI cZ d (apO S (decI x)) th H) (Ao d 9)) [.ref (d 0), .int (x)].toArray s 0 0 (Ao d 9)) (F0 m 23 ls []) := by
    intro X H locs hX hl1 hB0 hS ls hl
    refine lv_lconst (v := lN (1)) hx hb dX5_writesNumber_23 (by decide) ?_
    refine lv_lstore (lv' := [(4, .long (lN (1))), (2, .long (lN (n))), (0, .ref (d 0)), (1, .int (x))]) hx hb dX5_writesNumber_24 hl (by decide) rfl (fun ls hl => ?_)
    have KK2 : ∀ (k : Nat) (X : List Int32) (H : Heap) (locs : List Loc), k ≤ ndg n → X ++ dgs k n = decI x → X.length + k ≤ 11 → MdAt D cI cZ d (apO S X) th H → va_S (Ao d 9) s.heap H locs → ∀ ls : Array Slot, lv_has ls 6 [(4, .long (lN (un k))), (2, .long (lN (n))), (0, .ref (d 0)), (1, .int (x))] → W p l e (rmN 1) s m [.ref (d 0), .int (x)].toArray below meth c H locs 0 0 (MQ below (Wq none (fun H => MdAt D cI cZ d (apO S (decI x)) th H) (Ao d 9)) [.ref (d 0), .int (x)].toArray s 0 0 (Ao d 9)) (F0 m 48 ls []) := by
      have hng := ndg_in n
      clear hX hl1 hB0 hS hl
      intro k
      induction k with
      | zero =>
        intro X H locs hk1 hX hl2 hB0 hS ls hl
        have hl : lv_has ls 6 [(4, .long (lN (0))), (2, .long (lN (n))), (0, .ref (d 0)), (1, .int (x))] := hl
        refine lv_lload hx hb dX5_writesNumber_48 (lv_at hl 0 rfl) ?_
        refine lv_lconst (v := lN (0)) hx hb dX5_writesNumber_50 (by decide) ?_
        refine W.lcmp hx hb dX5_writesNumber_51 ?_
        refine x_lif_le (tgt := 83) hx hb dX5_writesNumber_52 (by decide) (by omega) (by omega) (fun c1 => ?_) (fun c1 => ?_)
        · have eX : X = decI x := by rw [← hX]; exact (List.append_nil X).symm
          rw [eX] at hB0
          exact w_v (PB := fun H => MdAt D cI cZ d (apO S (decI x)) th H) hB0 hS hx hb hr hlocks dX5_writesNumber_83
        · omega
      | succ k ih =>
        intro X H locs hk1 hX hl2 hB0 hS ls hl
        have hl : lv_has ls 6 [(4, .long (lN (10 ^ k))), (2, .long (lN (n))), (0, .ref (d 0)), (1, .int (x))] := hl
        obtain ⟨hp1, hp2⟩ := p10 k (by omega)
        have hun : 10 ^ k / 10 = un k := un_step k
        refine lv_lload hx hb dX5_writesNumber_48 (lv_at hl 0 rfl) ?_
        refine lv_lconst (v := lN (0)) hx hb dX5_writesNumber_50 (by decide) ?_
        refine W.lcmp hx hb dX5_writesNumber_51 ?_
        refine x_lif_le (tgt := 83) hx hb dX5_writesNumber_52 (by decide) (by omega) (by omega) (fun c1 => ?_) (fun c1 => ?_)
        · omega
        · refine lv_aload_n hx hb dX5_writesNumber_55 rfl (lv_at hl 2 rfl) ?_
          refine x_ldc2 (v := lN (48)) hx hb hown (hG _ kl_X5_118) dX5_writesNumber_56 (by decide) ?_
          refine lv_lload_n hx hb dX5_writesNumber_59 rfl (lv_at hl 1 rfl) ?_
          refine lv_lload hx hb dX5_writesNumber_60 (lv_at hl 0 rfl) ?_
          refine x_ldiv hx hb dX5_writesNumber_62 (by first | omega | exact Nat.lt_of_le_of_lt (Nat.div_le_self _ _) (by omega)) (by omega) (by omega) ?_
          refine x_ldc2 (v := lN (10)) hx hb hown (hG _ kl_X5_116) dX5_writesNumber_63 (by decide) ?_
          refine x_lrem hx hb dX5_writesNumber_66 (by first | omega | exact Nat.lt_of_le_of_lt (Nat.div_le_self _ _) (by omega)) (by omega) (by omega) ?_
          refine x_ladd (v := lN (48 + ((n / (10 ^ k)) % 10))) hx hb dX5_writesNumber_67 (lN_add _ _) ?_
          refine lv_l2i (v := nI (48 + ((n / (10 ^ k)) % 10))) hx hb dX5_writesNumber_68 (lN_i _) ?_
          refine k2_V hx hb hml hown hG cs_X5_112 (c5_writes l D cI cZ d (apO S X) th (nI (48 + ((n / (10 ^ k)) % 10))) (by rw [apO_len]; omega) hap) (by decide) (pzV hK rfl hB0.rc hB0) rfl hl.1 rfl (Nat.le_of_ble_eq_true rfl) dX5_writesNumber_69 ⟨Nat.zero_le _, Nat.zero_le _⟩ rfl hS (fun q h => h) (fun H locs hB0 hz hk hS => ?_)
          have hB0 : MdAt D cI cZ d (apO S (X ++ [(nI (48 + ((n / (10 ^ k)) % 10)))])) th H := by rw [apO_ap] at hB0; exact hB0
          refine lv_lload hx hb dX5_writesNumber_72 (lv_at hl 0 rfl) ?_
          refine x_ldc2 (v := lN (10)) hx hb hown (hG _ kl_X5_116) dX5_writesNumber_74 (by decide) ?_
          refine x_ldiv hx hb dX5_writesNumber_77 (by first | omega | exact Nat.lt_of_le_of_lt (Nat.div_le_self _ _) (by omega)) (by omega) (by omega) ?_
          refine lv_lstore (lv' := [(4, .long (lN ((10 ^ k) / 10))), (2, .long (lN (n))), (0, .ref (d 0)), (1, .int (x))]) hx hb dX5_writesNumber_78 hl (by decide) rfl (fun ls hl => ?_)
          refine lv_goto (tgt := 48) hx hb dX5_writesNumber_80 (by decide) ?_
          exact ih _ H locs (by omega) (by rw [List.append_assoc]; exact hX) (by rw [List.length_append]; simp; omega) hB0 hS ls (by rw [← hun]; exact (lv_sub hl [0, 1, 2, 3] rfl))
    suffices KK : ∀ (j k : Nat), ndg n < k + 1 + j → k + 1 ≤ ndg n → ∀ ls : Array Slot, lv_has ls 6 [(4, .long (lN (10 ^ k))), (2, .long (lN (n))), (0, .ref (d 0)), (1, .int (x))] → W p l e (rmN 1) s m [.ref (d 0), .int (x)].toArray below meth c H locs 0 0 (MQ below (Wq none (fun H => MdAt D cI cZ d (apO S (decI x)) th H) (Ao d 9)) [.ref (d 0), .int (x)].toArray s 0 0 (Ao d 9)) (F0 m 26 ls []) from KK 11 0 (by have := ndg_in n; omega) (by have := ndg_in n; omega) ls (lv_sub hl [0, 1, 2, 3] rfl)
    clear hl
    intro j
    induction j with
    | zero => intro k h1 h2; omega
    | succ j ih =>
      intro k h1 h2 ls hl
      have hng := ndg_in n
      obtain ⟨hp1, hp2⟩ := p10 k (by omega)
      have hdv : n / 10 ^ k < 2 ^ 63 := Nat.lt_of_le_of_lt (Nat.div_le_self _ _) (by omega)
      refine lv_lload_n hx hb dX5_writesNumber_26 rfl (lv_at hl 1 rfl) ?_
      refine lv_lload hx hb dX5_writesNumber_27 (lv_at hl 0 rfl) ?_
      refine x_ldiv hx hb dX5_writesNumber_29 (by first | omega | exact Nat.lt_of_le_of_lt (Nat.div_le_self _ _) (by omega)) (by omega) (by omega) ?_
      refine x_ldc2 (v := lN (10)) hx hb hown (hG _ kl_X5_116) dX5_writesNumber_30 (by decide) ?_
      refine W.lcmp hx hb dX5_writesNumber_33 ?_
      refine x_lif_lt (tgt := 48) hx hb dX5_writesNumber_34 (by decide) (by omega) (by omega) (fun c1 => ?_) (fun c1 => ?_)
      · have ek := ndg_c1 c1 h2
        exact KK2 (k + 1) X H locs (by omega) (by rw [ek]; exact hX) (by omega) hB0 hS ls (lv_sub hl [0, 1, 2, 3] rfl)
      · have ek := ndg_c2 c1 (by omega)
        refine lv_lload hx hb dX5_writesNumber_37 (lv_at hl 0 rfl) ?_
        refine x_ldc2 (v := lN (10)) hx hb hown (hG _ kl_X5_116) dX5_writesNumber_39 (by decide) ?_
        refine x_lmul (v := lN ((10 ^ k) * 10)) hx hb dX5_writesNumber_42 (lN_mul _ _) ?_
        refine lv_lstore (lv' := [(4, .long (lN ((10 ^ k) * 10))), (2, .long (lN (n))), (0, .ref (d 0)), (1, .int (x))]) hx hb dX5_writesNumber_43 hl (by decide) rfl (fun ls hl => ?_)
        refine lv_goto (tgt := 26) hx hb dX5_writesNumber_45 (by decide) ?_
        exact ih (k + 1) (by omega) (by omega) ls (lv_sub hl [0, 1, 2, 3] rfl)
  refine lv_iload_n hx hb dX5_writesNumber_0 rfl (lv_at hl 1 rfl) ?_
  refine lv_if_ge (tgt := 10) hx hb dX5_writesNumber_1 (by decide) (fun c0 => ?_) (fun c0 => ?_)
  · refine lv_iload_n hx hb dX5_writesNumber_10 rfl (lv_at hl 1 rfl) ?_
    refine lv_i2l (v := Int32.toInt64 x) hx hb dX5_writesNumber_11 rfl ?_
    rw [show Int32.toInt64 x = lN n from by rw [hn]; exact (i64_pos (fun z => by rw [i_le] at c0; rw [i_lt] at z; omega)).1]
    refine lv_lstore_n (lv' := [(2, .long (lN (n))), (0, .ref (d 0)), (1, .int (x))]) hx hb dX5_writesNumber_12 rfl hl (by decide) rfl (fun ls hl => ?_)
    refine lv_iload_n hx hb dX5_writesNumber_13 rfl (lv_at hl 2 rfl) ?_
    refine lv_if_ge (tgt := 23) hx hb dX5_writesNumber_14 (by decide) (fun c2 => ?_) (fun c2 => ?_)
    · exact TAIL [] s.heap [] (by unfold decI; rw [if_neg (fun z => by rw [i_le] at c0; rw [i_lt] at z; omega), hn]) (Nat.zero_le _) (by rw [show apO S [] = S from by unfold apO; rw [List.append_nil]]; exact hB0) hS ls (lv_sub hl [0, 1, 2] rfl)
    · exact absurd c0 c2
  · have hx0 : x < 0 := by rcases fa_lt0 x with q | q; exact q; exact absurd q c0
    refine lv_iload_n hx hb dX5_writesNumber_4 rfl (lv_at hl 1 rfl) ?_
    refine lv_i2l (v := Int32.toInt64 x) hx hb dX5_writesNumber_5 rfl ?_
    refine lv_lneg hx hb dX5_writesNumber_6 ?_
    refine lv_goto (tgt := 12) hx hb dX5_writesNumber_7 (by decide) ?_
    rw [show -(Int32.toInt64 x) = lN n from by rw [hn]; exact i64_neg2 hx0]
    refine lv_lstore_n (lv' := [(2, .long (lN (n))), (0, .ref (d 0)), (1, .int (x))]) hx hb dX5_writesNumber_12 rfl hl (by decide) rfl (fun ls hl => ?_)
    refine lv_iload_n hx hb dX5_writesNumber_13 rfl (lv_at hl 2 rfl) ?_
    refine lv_if_ge (tgt := 23) hx hb dX5_writesNumber_14 (by decide) (fun c2 => ?_) (fun c2 => ?_)
    · exact absurd c2 c0
    · have hB0 : MdAt D cI cZ d (apO S []) th s.heap := by rw [show apO S [] = S from by unfold apO; rw [List.append_nil]]; exact hB0
      refine lv_aload_n hx hb dX5_writesNumber_17 rfl (lv_at hl 1 rfl) ?_
      refine lv_bipush (v := nI 45) hx hb dX5_writesNumber_18 (by decide) ?_
      refine k2_V hx hb hml hown hG cs_X5_112 (c5_writes l D cI cZ d (apO S ([])) th (nI (45)) (by rw [apO_len]; (try simp only [List.length_nil]); omega) hap) (by decide) (pzV hK rfl hB0.rc hB0) rfl hl.1 rfl (Nat.le_of_ble_eq_true rfl) dX5_writesNumber_20 ⟨Nat.zero_le _, Nat.zero_le _⟩ rfl hS (fun q h => h) (fun H locs hB0 hz hk hS => ?_)
      have hB0 : MdAt D cI cZ d (apO S ([] ++ [(nI (45))])) th H := by rw [apO_ap] at hB0; exact hB0
      exact TAIL ([] ++ [nI 45]) H locs (by unfold decI; rw [if_pos hx0, hn]; rfl) (by simp) hB0 hS ls (lv_sub hl [0, 1, 2] rfl)
set_option maxHeartbeats 4000000 in
set_option maxRecDepth 100000 in
theorem m_write (l : Launch) (D : va_G) (cI cZ : ClassId) (d : Nat → Nat) (S : St) (th : Int32) (x : Int32) (hI : Inv S) (hap : Ap d 9) : Met l yX5_write (ws_ yX5_write cX5_write 3 (some .int)) (rmN 4) (va_Pc [.ref (d 0), .int x] (pz D [(cI, .int), (cZ, .boolean)] (fun H => MdAt D cI cZ d S th H))) (Wq (some (.int (sp_write S x).2.1)) (fun H => MdAt D cI cZ d (sp_write S x).2.2 (nI (sp_write S x).1) H) (Ao d 9)) 0 0 (Ao d 9) := by
  have hbd2 : S.2.1 ≤ 40 := hI.2.2.2.1
  have hCC : ∀ cu, cu < 3 → ∀ y, S.2.2.1 cu = some y → y.1 < 4 := fun cu hcu y hy => by have h := hI.2.2.2.2.1 cu hcu; rw [hy] at h; exact h.1
  rcases bkn_cases 4 (by decide) x with ⟨b, hb4, rfl, hbk⟩ | ⟨hbk, hno⟩
  · have hN := hI.1 b hb4
    have e9 : sp_write S (nI (b)) = (0, nI (wrL (S.1 b)).length, (S.1, S.2.1, S.2.2.1, wrL (S.1 b))) := by simp [sp_write, hbk]
    rw [e9]
    refine m_start (by decide) (Nat.le_of_ble_eq_true rfl) ?_
    intro p e s m below meth c hx hb hr hG hown hlocks hml hB ls hl
    have hl : lv_has ls 3 [(0, .ref (d 0)), (1, .int (nI (b)))] := hl
    obtain ⟨hB0, hK⟩ := hB
    have hS : va_S (Ao d 9) s.heap s.heap [] := va_S.rf
    refine lv_iload_n hx hb dX5_write_0 rfl (lv_at hl 1 rfl) ?_
    refine k1_S hx hb hml hown hG cs_X5_68 (by have h := c5_isBook l D (nI (b)); rw [rch_in (by omega) (by decide)] at h; exact h) (by decide) (pzS (hK.sub (tys' := []) [] rfl) trivial) rfl hl.1 rfl (Nat.le_of_ble_eq_true rfl) dX5_write_1 ⟨Nat.zero_le _, Nat.zero_le _⟩ rfl ?_
    refine x_ifb_ne (tgt := 13) hx hb dX5_write_4 (by decide) (fun zc1 => ?_) (fun zc1 => False.elim (by first | exact absurd zc1 (by decide) | omega | (simp_all; done)))
    refine lv_aload_n hx hb dX5_write_13 rfl (lv_at hl 0 rfl) ?_
    refine lv_iconst (v := nI 0) hx hb dX5_write_14 (by decide) ?_
    obtain ⟨K, V, sz, cb, ck, ca, it, ou, hP, hMB, hMC, hMO⟩ := id hB0
    have hP : va_P D vwCl [(d 0, .inr (5, [.ref (d 1), .ref (d 2), .ref (d 3), .int (nI (S.2.1)), .int (th), .ref (d 4), .ref (d 5), .ref (d 6), .ref (d 7), .ref (d 8), .int (nI (S.2.2.2.length))])), (d 1, .inl (cI, (804, .inl K))), (d 2, .inl (cI, (804, .inl V))), (d 3, .inl (cI, (4, .inl sz))), (d 4, .inl (cI, (3, .inl cb))), (d 5, .inl (cI, (3, .inl ck))), (d 6, .inl (cI, (3, .inl ca))), (d 7, .inl (cZ, (3, .inl it))), (d 8, .inl (cI, (6000, .inl ou)))] s.heap := hP
    have hD : va_D (Ao d 9) [(d 0, .inr (5, [.ref (d 1), .ref (d 2), .ref (d 3), .int (nI (S.2.1)), .int (th), .ref (d 4), .ref (d 5), .ref (d 6), .ref (d 7), .ref (d 8), .int (nI (S.2.2.2.length))])), (d 1, .inl (cI, (804, .inl K))), (d 2, .inl (cI, (804, .inl V))), (d 3, .inl (cI, (4, .inl sz))), (d 4, .inl (cI, (3, .inl cb))), (d 5, .inl (cI, (3, .inl ck))), (d 6, .inl (cI, (3, .inl ca))), (d 7, .inl (cZ, (3, .inl it))), (d 8, .inl (cI, (6000, .inl ou)))] := hap.D9
    refine pf_X5_109 hx hb hG hown hK hP hD hS 0 rfl (v := .int (nI (0))) rfl rfl (Nat.le_of_ble_eq_true rfl) dX5_write_15 (fun H locs hP hD hS => ?_)
    have hP : va_P D vwCl [(d 0, .inr (5, [.ref (d 1), .ref (d 2), .ref (d 3), .int (nI (S.2.1)), .int (th), .ref (d 4), .ref (d 5), .ref (d 6), .ref (d 7), .ref (d 8), .int (nI (0))])), (d 1, .inl (cI, (804, .inl K))), (d 2, .inl (cI, (804, .inl V))), (d 3, .inl (cI, (4, .inl sz))), (d 4, .inl (cI, (3, .inl cb))), (d 5, .inl (cI, (3, .inl ck))), (d 6, .inl (cI, (3, .inl ca))), (d 7, .inl (cZ, (3, .inl it))), (d 8, .inl (cI, (6000, .inl ou)))] H := hP
    have hD : va_D (Ao d 9) [(d 0, .inr (5, [.ref (d 1), .ref (d 2), .ref (d 3), .int (nI (S.2.1)), .int (th), .ref (d 4), .ref (d 5), .ref (d 6), .ref (d 7), .ref (d 8), .int (nI (0))])), (d 1, .inl (cI, (804, .inl K))), (d 2, .inl (cI, (804, .inl V))), (d 3, .inl (cI, (4, .inl sz))), (d 4, .inl (cI, (3, .inl cb))), (d 5, .inl (cI, (3, .inl ck))), (d 6, .inl (cI, (3, .inl ca))), (d 7, .inl (cZ, (3, .inl it))), (d 8, .inl (cI, (6000, .inl ou)))] := hD
    refine lv_aload_n hx hb dX5_write_18 rfl (lv_at hl 0 rfl) ?_
    refine lv_bipush (v := nI 123) hx hb dX5_write_19 (by decide) ?_
    have hB0 : MdAt D cI cZ d (wS S []) th H := ⟨K, V, sz, cb, ck, ca, it, ou, hP, hMB, hMC, ⟨Nat.zero_le _, fun j hj => absurd hj (Nat.not_lt_zero j)⟩⟩
    refine k2_V hx hb hml hown hG cs_X5_112 (c5_writes l D cI cZ d (wS S []) th (nI (123)) (by show ([] : List Int32).length < 6000; (try simp only [List.length_append, List.length_cons, List.length_nil]); omega) hap) (by decide) (pzV hK rfl hB0.rc hB0) rfl hl.1 rfl (Nat.le_of_ble_eq_true rfl) dX5_write_21 ⟨Nat.zero_le _, Nat.zero_le _⟩ rfl hS (fun q h => h) (fun H locs hB0 hz hk hS => ?_)
    have hB0 : MdAt D cI cZ d (wS S ([] ++ [(nI (123))])) th H := hB0
    refine lv_iconst (v := nI 0) hx hb dX5_write_24 (by decide) ?_
    refine lv_istore_n (lv' := [(2, .int (nI (0))), (0, .ref (d 0)), (1, .int (nI (b)))]) hx hb dX5_write_25 rfl hl (by decide) rfl (fun ls hl => ?_)
    suffices KK : ∀ (n i : Nat), (S.1 b).length < i + n → i ≤ (S.1 b).length → ∀ (H : Heap) (locs : List Loc), MdAt D cI cZ d (wS S (wrA (S.1 b) i)) th H → va_S (Ao d 9) s.heap H locs → ∀ ls : Array Slot, lv_has ls 3 [(2, .int (nI (i))), (0, .ref (d 0)), (1, .int (nI (b)))] → W p l e (rmN 4) s m [.ref (d 0), .int (nI (b))].toArray below meth c H locs 0 0 (MQ below (Wq (some (.int (nI (wrL (S.1 b)).length))) (fun H => MdAt D cI cZ d (S.1, S.2.1, S.2.2.1, wrL (S.1 b)) (nI 0) H) (Ao d 9)) [.ref (d 0), .int (nI (b))].toArray s 0 0 (Ao d 9)) (F0 m 26 ls []) from KK ((S.1 b).length + 1) 0 (by omega) (by omega) H locs hB0 hS ls (lv_sub hl [0, 1, 2] rfl)
    clear hB0 hS hl
    intro n
    induction n with
    | zero => intro i h1 h2; omega
    | succ n ih =>
      intro i h1 h2 H locs hB0 hS ls hl
      have hw := wrA_len (S.1 b) i
      have hdk := decI_len (kf (S.1 b) i)
      have hdv := decI_len (vf (S.1 b) i)
      refine lv_iload_n hx hb dX5_write_26 rfl (lv_at hl 0 rfl) ?_
      refine lv_aload_n hx hb dX5_write_27 rfl (lv_at hl 1 rfl) ?_
      obtain ⟨K, V, sz, cb, ck, ca, it, ou, hP, hMB, hMC, hMO⟩ := id hB0
      have hMB : MdB S.1 K V sz := hMB
      have hP : va_P D vwCl [(d 0, .inr (5, [.ref (d 1), .ref (d 2), .ref (d 3), .int (nI (S.2.1)), .int (th), .ref (d 4), .ref (d 5), .ref (d 6), .ref (d 7), .ref (d 8), .int (nI ((wrA (S.1 b) i).length))])), (d 1, .inl (cI, (804, .inl K))), (d 2, .inl (cI, (804, .inl V))), (d 3, .inl (cI, (4, .inl sz))), (d 4, .inl (cI, (3, .inl cb))), (d 5, .inl (cI, (3, .inl ck))), (d 6, .inl (cI, (3, .inl ca))), (d 7, .inl (cZ, (3, .inl it))), (d 8, .inl (cI, (6000, .inl ou)))] H := hP
      have hD : va_D (Ao d 9) [(d 0, .inr (5, [.ref (d 1), .ref (d 2), .ref (d 3), .int (nI (S.2.1)), .int (th), .ref (d 4), .ref (d 5), .ref (d 6), .ref (d 7), .ref (d 8), .int (nI ((wrA (S.1 b) i).length))])), (d 1, .inl (cI, (804, .inl K))), (d 2, .inl (cI, (804, .inl V))), (d 3, .inl (cI, (4, .inl sz))), (d 4, .inl (cI, (3, .inl cb))), (d 5, .inl (cI, (3, .inl ck))), (d 6, .inl (cI, (3, .inl ca))), (d 7, .inl (cZ, (3, .inl it))), (d 8, .inl (cI, (6000, .inl ou)))] := hap.D9
      refine gf_X5_16 hx hb hG hown hK hP 0 rfl rfl dX5_write_28 ?_
      refine lv_iload_n hx hb dX5_write_31 rfl (lv_at hl 2 rfl) ?_
      refine x_iald hx hb hK hP 3 0 rfl rfl (by omega) (by decide) dX5_write_32 ?_
      rw [(hMB (b) (by omega)).1]
      refine x_cmp_ge (tgt := 96) hx hb dX5_write_33 (by decide) (by omega) (by omega) (fun c1 => ?_) (fun c1 => ?_)
      · have ei : i = (S.1 b).length := by omega
        refine lv_aload_n hx hb dX5_write_96 rfl (lv_at hl 1 rfl) ?_
        refine lv_bipush (v := nI 125) hx hb dX5_write_97 (by decide) ?_
        refine k2_V hx hb hml hown hG cs_X5_112 (c5_writes l D cI cZ d (wS S (wrA (S.1 b) i)) th (nI (125)) (by show ((wrA (S.1 b) i) : List Int32).length < 6000; (try simp only [List.length_append, List.length_cons, List.length_nil]); omega) hap) (by decide) (pzV hK rfl hB0.rc hB0) rfl hl.1 rfl (Nat.le_of_ble_eq_true rfl) dX5_write_99 ⟨Nat.zero_le _, Nat.zero_le _⟩ rfl hS (fun q h => h) (fun H locs hB0 hz hk hS => ?_)
        have hB0 : MdAt D cI cZ d (wS S ((wrA (S.1 b) i) ++ [(nI (125))])) th H := hB0
        rw [ei] at hB0
        refine lv_aload_n hx hb dX5_write_102 rfl (lv_at hl 1 rfl) ?_
        refine lv_aload_n hx hb dX5_write_103 rfl (lv_at hl 1 rfl) ?_
        obtain ⟨K, V, sz, cb, ck, ca, it, ou, hP, hMB, hMC, hMO⟩ := id hB0
        have hMB : MdB S.1 K V sz := hMB
        have hP : va_P D vwCl [(d 0, .inr (5, [.ref (d 1), .ref (d 2), .ref (d 3), .int (nI (S.2.1)), .int (th), .ref (d 4), .ref (d 5), .ref (d 6), .ref (d 7), .ref (d 8), .int (nI (((wrA (S.1 b) (S.1 b).length) ++ [nI 125]).length))])), (d 1, .inl (cI, (804, .inl K))), (d 2, .inl (cI, (804, .inl V))), (d 3, .inl (cI, (4, .inl sz))), (d 4, .inl (cI, (3, .inl cb))), (d 5, .inl (cI, (3, .inl ck))), (d 6, .inl (cI, (3, .inl ca))), (d 7, .inl (cZ, (3, .inl it))), (d 8, .inl (cI, (6000, .inl ou)))] H := hP
        have hD : va_D (Ao d 9) [(d 0, .inr (5, [.ref (d 1), .ref (d 2), .ref (d 3), .int (nI (S.2.1)), .int (th), .ref (d 4), .ref (d 5), .ref (d 6), .ref (d 7), .ref (d 8), .int (nI (((wrA (S.1 b) (S.1 b).length) ++ [nI 125]).length))])), (d 1, .inl (cI, (804, .inl K))), (d 2, .inl (cI, (804, .inl V))), (d 3, .inl (cI, (4, .inl sz))), (d 4, .inl (cI, (3, .inl cb))), (d 5, .inl (cI, (3, .inl ck))), (d 6, .inl (cI, (3, .inl ca))), (d 7, .inl (cZ, (3, .inl it))), (d 8, .inl (cI, (6000, .inl ou)))] := hap.D9
        refine gf_X5_109 hx hb hG hown hK hP 0 rfl rfl dX5_write_104 ?_
        refine k2_V hx hb hml hown hG cs_X5_65 (c5_told l D cI cZ d (wS S ((wrA (S.1 b) (S.1 b).length) ++ [nI 125])) th (nI (((wrA (S.1 b) (S.1 b).length) ++ [nI 125]).length)) hap) (by decide) (pzV hK rfl hB0.rc hB0) rfl hl.1 rfl (Nat.le_of_ble_eq_true rfl) dX5_write_107 ⟨Nat.zero_le _, Nat.zero_le _⟩ rfl hS (fun q h => h) (fun H locs hB0 hz hk hS => ?_)
        exact w_i (PB := (fun H => MdAt D cI cZ d (S.1, S.2.1, S.2.2.1, wrL (S.1 b)) (nI 0) H)) rfl hB0 hS hx hb hr hlocks dX5_write_110
      · rcases Nat.eq_zero_or_pos i with e0 | e0
        · skip
          refine lv_iload_n hx hb dX5_write_36 rfl (lv_at hl 0 rfl) ?_
          refine lv_if_le (tgt := 52) hx hb dX5_write_37 (by decide) (fun zc2 => ?_) (fun zc2 => False.elim (by exact absurd (show nI i ≤ 0 from by rw [e0]; decide) zc2))
          refine lv_aload_n hx hb dX5_write_52 rfl (lv_at hl 1 rfl) ?_
          refine lv_aload_n hx hb dX5_write_53 rfl (lv_at hl 1 rfl) ?_
          refine gf_X5_7 hx hb hG hown hK hP 0 rfl rfl dX5_write_54 ?_
          refine lv_sipush (v := nI 201) hx hb dX5_write_57 (by decide) ?_
          refine lv_iload_n hx hb dX5_write_60 rfl (lv_at hl 2 rfl) ?_
          refine x_imul (v := nI (201 * b)) hx hb dX5_write_61 (pk_mul _ _) ?_
          refine lv_iload_n hx hb dX5_write_62 rfl (lv_at hl 0 rfl) ?_
          refine x_iadd (v := nI ((201 * b) + i)) hx hb dX5_write_63 (nI_add _ _) ?_
          refine x_iald hx hb hK hP 1 0 rfl rfl (by omega) (by decide) dX5_write_64 ?_
          rw [show K ((201 * b) + i) = kf (S.1 b) i from ((hMB b (by omega)).2.2 i (by omega)).1]
          refine k2_V hx hb hml hown hG cs_X5_120 (c5_writesNumber l D cI cZ d (wS S (wrA (S.1 b) i)) th (kf (S.1 b) i) (by show ((wrA (S.1 b) i) : List Int32).length + 11 ≤ 6000; (try simp only [List.length_append, List.length_cons, List.length_nil]); omega) hap) (by decide) (pzV hK rfl hB0.rc hB0) rfl hl.1 rfl (Nat.le_of_ble_eq_true rfl) dX5_write_65 ⟨Nat.zero_le _, Nat.zero_le _⟩ rfl hS (fun q h => h) (fun H locs hB0 hz hk hS => ?_)
          have hB0 : MdAt D cI cZ d (wS S ((wrA (S.1 b) i) ++ decI (kf (S.1 b) i))) th H := hB0
          refine lv_aload_n hx hb dX5_write_68 rfl (lv_at hl 1 rfl) ?_
          refine lv_bipush (v := nI 61) hx hb dX5_write_69 (by decide) ?_
          refine k2_V hx hb hml hown hG cs_X5_112 (c5_writes l D cI cZ d (wS S ((wrA (S.1 b) i) ++ decI (kf (S.1 b) i))) th (nI (61)) (by show (((wrA (S.1 b) i) ++ decI (kf (S.1 b) i)) : List Int32).length < 6000; (try simp only [List.length_append, List.length_cons, List.length_nil]); omega) hap) (by decide) (pzV hK rfl hB0.rc hB0) rfl hl.1 rfl (Nat.le_of_ble_eq_true rfl) dX5_write_71 ⟨Nat.zero_le _, Nat.zero_le _⟩ rfl hS (fun q h => h) (fun H locs hB0 hz hk hS => ?_)
          have hB0 : MdAt D cI cZ d (wS S (((wrA (S.1 b) i) ++ decI (kf (S.1 b) i)) ++ [(nI (61))])) th H := hB0
          refine lv_aload_n hx hb dX5_write_74 rfl (lv_at hl 1 rfl) ?_
          refine lv_aload_n hx hb dX5_write_75 rfl (lv_at hl 1 rfl) ?_
          obtain ⟨K, V, sz, cb, ck, ca, it, ou, hP, hMB, hMC, hMO⟩ := id hB0
          have hMB : MdB S.1 K V sz := hMB
          have hP : va_P D vwCl [(d 0, .inr (5, [.ref (d 1), .ref (d 2), .ref (d 3), .int (nI (S.2.1)), .int (th), .ref (d 4), .ref (d 5), .ref (d 6), .ref (d 7), .ref (d 8), .int (nI ((((wrA (S.1 b) i) ++ decI (kf (S.1 b) i)) ++ [(nI (61))]).length))])), (d 1, .inl (cI, (804, .inl K))), (d 2, .inl (cI, (804, .inl V))), (d 3, .inl (cI, (4, .inl sz))), (d 4, .inl (cI, (3, .inl cb))), (d 5, .inl (cI, (3, .inl ck))), (d 6, .inl (cI, (3, .inl ca))), (d 7, .inl (cZ, (3, .inl it))), (d 8, .inl (cI, (6000, .inl ou)))] H := hP
          have hD : va_D (Ao d 9) [(d 0, .inr (5, [.ref (d 1), .ref (d 2), .ref (d 3), .int (nI (S.2.1)), .int (th), .ref (d 4), .ref (d 5), .ref (d 6), .ref (d 7), .ref (d 8), .int (nI ((((wrA (S.1 b) i) ++ decI (kf (S.1 b) i)) ++ [(nI (61))]).length))])), (d 1, .inl (cI, (804, .inl K))), (d 2, .inl (cI, (804, .inl V))), (d 3, .inl (cI, (4, .inl sz))), (d 4, .inl (cI, (3, .inl cb))), (d 5, .inl (cI, (3, .inl ck))), (d 6, .inl (cI, (3, .inl ca))), (d 7, .inl (cZ, (3, .inl it))), (d 8, .inl (cI, (6000, .inl ou)))] := hap.D9
          refine gf_X5_13 hx hb hG hown hK hP 0 rfl rfl dX5_write_76 ?_
          refine lv_sipush (v := nI 201) hx hb dX5_write_79 (by decide) ?_
          refine lv_iload_n hx hb dX5_write_82 rfl (lv_at hl 2 rfl) ?_
          refine x_imul (v := nI (201 * b)) hx hb dX5_write_83 (pk_mul _ _) ?_
          refine lv_iload_n hx hb dX5_write_84 rfl (lv_at hl 0 rfl) ?_
          refine x_iadd (v := nI ((201 * b) + i)) hx hb dX5_write_85 (nI_add _ _) ?_
          refine x_iald hx hb hK hP 2 0 rfl rfl (by omega) (by decide) dX5_write_86 ?_
          rw [show V ((201 * b) + i) = vf (S.1 b) i from ((hMB b (by omega)).2.2 i (by omega)).2]
          refine k2_V hx hb hml hown hG cs_X5_120 (c5_writesNumber l D cI cZ d (wS S (((wrA (S.1 b) i) ++ decI (kf (S.1 b) i)) ++ [(nI (61))])) th (vf (S.1 b) i) (by show ((((wrA (S.1 b) i) ++ decI (kf (S.1 b) i)) ++ [(nI (61))]) : List Int32).length + 11 ≤ 6000; (try simp only [List.length_append, List.length_cons, List.length_nil]); omega) hap) (by decide) (pzV hK rfl hB0.rc hB0) rfl hl.1 rfl (Nat.le_of_ble_eq_true rfl) dX5_write_87 ⟨Nat.zero_le _, Nat.zero_le _⟩ rfl hS (fun q h => h) (fun H locs hB0 hz hk hS => ?_)
          have hB0 : MdAt D cI cZ d (wS S ((((wrA (S.1 b) i) ++ decI (kf (S.1 b) i)) ++ [(nI (61))]) ++ decI (vf (S.1 b) i))) th H := hB0
          refine x_iinc (k := 0) (lv' := [(2, .int (nI (i + 1))), (0, .ref (d 0)), (1, .int (nI (b)))]) hx hb dX5_write_90 hl rfl (by decide) rfl (fun ls hl => ?_)
          refine lv_goto (tgt := 26) hx hb dX5_write_93 (by decide) ?_
          have e2 : wrA (S.1 b) (i + 1) = ((((wrA (S.1 b) i) ++ decI (kf (S.1 b) i)) ++ [(nI (61))]) ++ decI (vf (S.1 b) i)) := by
            rw [wrA, if_pos e0]
            simp only [List.append_assoc, List.cons_append, List.nil_append]
          exact ih (i + 1) (by omega) (by omega) H locs (by rw [e2]; exact hB0) hS ls (lv_sub hl [0, 1, 2] rfl)
        · skip
          refine lv_iload_n hx hb dX5_write_36 rfl (lv_at hl 0 rfl) ?_
          refine lv_if_le (tgt := 52) hx hb dX5_write_37 (by decide) (fun zc3 => False.elim (by exact nI_npos (by omega) e0 zc3)) (fun zc3 => ?_)
          refine lv_aload_n hx hb dX5_write_40 rfl (lv_at hl 1 rfl) ?_
          refine lv_bipush (v := nI 44) hx hb dX5_write_41 (by decide) ?_
          refine k2_V hx hb hml hown hG cs_X5_112 (c5_writes l D cI cZ d (wS S (wrA (S.1 b) i)) th (nI (44)) (by show ((wrA (S.1 b) i) : List Int32).length < 6000; (try simp only [List.length_append, List.length_cons, List.length_nil]); omega) hap) (by decide) (pzV hK rfl hB0.rc hB0) rfl hl.1 rfl (Nat.le_of_ble_eq_true rfl) dX5_write_43 ⟨Nat.zero_le _, Nat.zero_le _⟩ rfl hS (fun q h => h) (fun H locs hB0 hz hk hS => ?_)
          have hB0 : MdAt D cI cZ d (wS S ((wrA (S.1 b) i) ++ [(nI (44))])) th H := hB0
          refine lv_aload_n hx hb dX5_write_46 rfl (lv_at hl 1 rfl) ?_
          refine lv_bipush (v := nI 32) hx hb dX5_write_47 (by decide) ?_
          refine k2_V hx hb hml hown hG cs_X5_112 (c5_writes l D cI cZ d (wS S ((wrA (S.1 b) i) ++ [(nI (44))])) th (nI (32)) (by show (((wrA (S.1 b) i) ++ [(nI (44))]) : List Int32).length < 6000; (try simp only [List.length_append, List.length_cons, List.length_nil]); omega) hap) (by decide) (pzV hK rfl hB0.rc hB0) rfl hl.1 rfl (Nat.le_of_ble_eq_true rfl) dX5_write_49 ⟨Nat.zero_le _, Nat.zero_le _⟩ rfl hS (fun q h => h) (fun H locs hB0 hz hk hS => ?_)
          have hB0 : MdAt D cI cZ d (wS S (((wrA (S.1 b) i) ++ [(nI (44))]) ++ [(nI (32))])) th H := hB0
          refine lv_aload_n hx hb dX5_write_52 rfl (lv_at hl 1 rfl) ?_
          refine lv_aload_n hx hb dX5_write_53 rfl (lv_at hl 1 rfl) ?_
          obtain ⟨K, V, sz, cb, ck, ca, it, ou, hP, hMB, hMC, hMO⟩ := id hB0
          have hMB : MdB S.1 K V sz := hMB
          have hP : va_P D vwCl [(d 0, .inr (5, [.ref (d 1), .ref (d 2), .ref (d 3), .int (nI (S.2.1)), .int (th), .ref (d 4), .ref (d 5), .ref (d 6), .ref (d 7), .ref (d 8), .int (nI ((((wrA (S.1 b) i) ++ [(nI (44))]) ++ [(nI (32))]).length))])), (d 1, .inl (cI, (804, .inl K))), (d 2, .inl (cI, (804, .inl V))), (d 3, .inl (cI, (4, .inl sz))), (d 4, .inl (cI, (3, .inl cb))), (d 5, .inl (cI, (3, .inl ck))), (d 6, .inl (cI, (3, .inl ca))), (d 7, .inl (cZ, (3, .inl it))), (d 8, .inl (cI, (6000, .inl ou)))] H := hP
          have hD : va_D (Ao d 9) [(d 0, .inr (5, [.ref (d 1), .ref (d 2), .ref (d 3), .int (nI (S.2.1)), .int (th), .ref (d 4), .ref (d 5), .ref (d 6), .ref (d 7), .ref (d 8), .int (nI ((((wrA (S.1 b) i) ++ [(nI (44))]) ++ [(nI (32))]).length))])), (d 1, .inl (cI, (804, .inl K))), (d 2, .inl (cI, (804, .inl V))), (d 3, .inl (cI, (4, .inl sz))), (d 4, .inl (cI, (3, .inl cb))), (d 5, .inl (cI, (3, .inl ck))), (d 6, .inl (cI, (3, .inl ca))), (d 7, .inl (cZ, (3, .inl it))), (d 8, .inl (cI, (6000, .inl ou)))] := hap.D9
          refine gf_X5_7 hx hb hG hown hK hP 0 rfl rfl dX5_write_54 ?_
          refine lv_sipush (v := nI 201) hx hb dX5_write_57 (by decide) ?_
          refine lv_iload_n hx hb dX5_write_60 rfl (lv_at hl 2 rfl) ?_
          refine x_imul (v := nI (201 * b)) hx hb dX5_write_61 (pk_mul _ _) ?_
          refine lv_iload_n hx hb dX5_write_62 rfl (lv_at hl 0 rfl) ?_
          refine x_iadd (v := nI ((201 * b) + i)) hx hb dX5_write_63 (nI_add _ _) ?_
          refine x_iald hx hb hK hP 1 0 rfl rfl (by omega) (by decide) dX5_write_64 ?_
          rw [show K ((201 * b) + i) = kf (S.1 b) i from ((hMB b (by omega)).2.2 i (by omega)).1]
          refine k2_V hx hb hml hown hG cs_X5_120 (c5_writesNumber l D cI cZ d (wS S (((wrA (S.1 b) i) ++ [(nI (44))]) ++ [(nI (32))])) th (kf (S.1 b) i) (by show ((((wrA (S.1 b) i) ++ [(nI (44))]) ++ [(nI (32))]) : List Int32).length + 11 ≤ 6000; (try simp only [List.length_append, List.length_cons, List.length_nil]); omega) hap) (by decide) (pzV hK rfl hB0.rc hB0) rfl hl.1 rfl (Nat.le_of_ble_eq_true rfl) dX5_write_65 ⟨Nat.zero_le _, Nat.zero_le _⟩ rfl hS (fun q h => h) (fun H locs hB0 hz hk hS => ?_)
          have hB0 : MdAt D cI cZ d (wS S ((((wrA (S.1 b) i) ++ [(nI (44))]) ++ [(nI (32))]) ++ decI (kf (S.1 b) i))) th H := hB0
          refine lv_aload_n hx hb dX5_write_68 rfl (lv_at hl 1 rfl) ?_
          refine lv_bipush (v := nI 61) hx hb dX5_write_69 (by decide) ?_
          refine k2_V hx hb hml hown hG cs_X5_112 (c5_writes l D cI cZ d (wS S ((((wrA (S.1 b) i) ++ [(nI (44))]) ++ [(nI (32))]) ++ decI (kf (S.1 b) i))) th (nI (61)) (by show (((((wrA (S.1 b) i) ++ [(nI (44))]) ++ [(nI (32))]) ++ decI (kf (S.1 b) i)) : List Int32).length < 6000; (try simp only [List.length_append, List.length_cons, List.length_nil]); omega) hap) (by decide) (pzV hK rfl hB0.rc hB0) rfl hl.1 rfl (Nat.le_of_ble_eq_true rfl) dX5_write_71 ⟨Nat.zero_le _, Nat.zero_le _⟩ rfl hS (fun q h => h) (fun H locs hB0 hz hk hS => ?_)
          have hB0 : MdAt D cI cZ d (wS S (((((wrA (S.1 b) i) ++ [(nI (44))]) ++ [(nI (32))]) ++ decI (kf (S.1 b) i)) ++ [(nI (61))])) th H := hB0
          refine lv_aload_n hx hb dX5_write_74 rfl (lv_at hl 1 rfl) ?_
          refine lv_aload_n hx hb dX5_write_75 rfl (lv_at hl 1 rfl) ?_
          obtain ⟨K, V, sz, cb, ck, ca, it, ou, hP, hMB, hMC, hMO⟩ := id hB0
          have hMB : MdB S.1 K V sz := hMB
          have hP : va_P D vwCl [(d 0, .inr (5, [.ref (d 1), .ref (d 2), .ref (d 3), .int (nI (S.2.1)), .int (th), .ref (d 4), .ref (d 5), .ref (d 6), .ref (d 7), .ref (d 8), .int (nI ((((((wrA (S.1 b) i) ++ [(nI (44))]) ++ [(nI (32))]) ++ decI (kf (S.1 b) i)) ++ [(nI (61))]).length))])), (d 1, .inl (cI, (804, .inl K))), (d 2, .inl (cI, (804, .inl V))), (d 3, .inl (cI, (4, .inl sz))), (d 4, .inl (cI, (3, .inl cb))), (d 5, .inl (cI, (3, .inl ck))), (d 6, .inl (cI, (3, .inl ca))), (d 7, .inl (cZ, (3, .inl it))), (d 8, .inl (cI, (6000, .inl ou)))] H := hP
          have hD : va_D (Ao d 9) [(d 0, .inr (5, [.ref (d 1), .ref (d 2), .ref (d 3), .int (nI (S.2.1)), .int (th), .ref (d 4), .ref (d 5), .ref (d 6), .ref (d 7), .ref (d 8), .int (nI ((((((wrA (S.1 b) i) ++ [(nI (44))]) ++ [(nI (32))]) ++ decI (kf (S.1 b) i)) ++ [(nI (61))]).length))])), (d 1, .inl (cI, (804, .inl K))), (d 2, .inl (cI, (804, .inl V))), (d 3, .inl (cI, (4, .inl sz))), (d 4, .inl (cI, (3, .inl cb))), (d 5, .inl (cI, (3, .inl ck))), (d 6, .inl (cI, (3, .inl ca))), (d 7, .inl (cZ, (3, .inl it))), (d 8, .inl (cI, (6000, .inl ou)))] := hap.D9
          refine gf_X5_13 hx hb hG hown hK hP 0 rfl rfl dX5_write_76 ?_
          refine lv_sipush (v := nI 201) hx hb dX5_write_79 (by decide) ?_
          refine lv_iload_n hx hb dX5_write_82 rfl (lv_at hl 2 rfl) ?_
          refine x_imul (v := nI (201 * b)) hx hb dX5_write_83 (pk_mul _ _) ?_
          refine lv_iload_n hx hb dX5_write_84 rfl (lv_at hl 0 rfl) ?_
          refine x_iadd (v := nI ((201 * b) + i)) hx hb dX5_write_85 (nI_add _ _) ?_
          refine x_iald hx hb hK hP 2 0 rfl rfl (by omega) (by decide) dX5_write_86 ?_
          rw [show V ((201 * b) + i) = vf (S.1 b) i from ((hMB b (by omega)).2.2 i (by omega)).2]
          refine k2_V hx hb hml hown hG cs_X5_120 (c5_writesNumber l D cI cZ d (wS S (((((wrA (S.1 b) i) ++ [(nI (44))]) ++ [(nI (32))]) ++ decI (kf (S.1 b) i)) ++ [(nI (61))])) th (vf (S.1 b) i) (by show ((((((wrA (S.1 b) i) ++ [(nI (44))]) ++ [(nI (32))]) ++ decI (kf (S.1 b) i)) ++ [(nI (61))]) : List Int32).length + 11 ≤ 6000; (try simp only [List.length_append, List.length_cons, List.length_nil]); omega) hap) (by decide) (pzV hK rfl hB0.rc hB0) rfl hl.1 rfl (Nat.le_of_ble_eq_true rfl) dX5_write_87 ⟨Nat.zero_le _, Nat.zero_le _⟩ rfl hS (fun q h => h) (fun H locs hB0 hz hk hS => ?_)
          have hB0 : MdAt D cI cZ d (wS S ((((((wrA (S.1 b) i) ++ [(nI (44))]) ++ [(nI (32))]) ++ decI (kf (S.1 b) i)) ++ [(nI (61))]) ++ decI (vf (S.1 b) i))) th H := hB0
          refine x_iinc (k := 0) (lv' := [(2, .int (nI (i + 1))), (0, .ref (d 0)), (1, .int (nI (b)))]) hx hb dX5_write_90 hl rfl (by decide) rfl (fun ls hl => ?_)
          refine lv_goto (tgt := 26) hx hb dX5_write_93 (by decide) ?_
          have e2 : wrA (S.1 b) (i + 1) = ((((((wrA (S.1 b) i) ++ [(nI (44))]) ++ [(nI (32))]) ++ decI (kf (S.1 b) i)) ++ [(nI (61))]) ++ decI (vf (S.1 b) i)) := by
            rw [wrA, if_neg (by omega)]
            simp only [List.append_assoc, List.cons_append, List.nil_append]
          exact ih (i + 1) (by omega) (by omega) H locs (by rw [e2]; exact hB0) hS ls (lv_sub hl [0, 1, 2] rfl)
  · skip
    have e9 : sp_write S x = (1, 0, S) := by simp [sp_write, askB, hbk]
    rw [e9]
    refine m_start (by decide) (Nat.le_of_ble_eq_true rfl) ?_
    intro p e s m below meth c hx hb hr hG hown hlocks hml hB ls hl
    have hl : lv_has ls 3 [(0, .ref (d 0)), (1, .int (x))] := hl
    obtain ⟨hB0, hK⟩ := hB
    have hS : va_S (Ao d 9) s.heap s.heap [] := va_S.rf
    refine lv_iload_n hx hb dX5_write_0 rfl (lv_at hl 1 rfl) ?_
    refine k1_S hx hb hml hown hG cs_X5_68 (by have h := c5_isBook l D x; rw [hno] at h; exact h) (by decide) (pzS (hK.sub (tys' := []) [] rfl) trivial) rfl hl.1 rfl (Nat.le_of_ble_eq_true rfl) dX5_write_1 ⟨Nat.zero_le _, Nat.zero_le _⟩ rfl ?_
    refine x_ifb_ne (tgt := 13) hx hb dX5_write_4 (by decide) (fun zc1 => False.elim (by first | exact absurd zc1 (by decide) | omega | (simp_all; done))) (fun zc1 => ?_)
    refine lv_aload_n hx hb dX5_write_7 rfl (lv_at hl 0 rfl) ?_
    refine lv_iconst (v := nI 1) hx hb dX5_write_8 (by decide) ?_
    refine k2_V hx hb hml hown hG cs_X5_58 (c5_refuse l D cI cZ d S th 1 hap) (by decide) (pzV hK rfl hB0.rc hB0) rfl hl.1 rfl (Nat.le_of_ble_eq_true rfl) dX5_write_9 ⟨Nat.zero_le _, Nat.zero_le _⟩ rfl hS (fun q h => h) (fun H locs hB0 hz hk hS => ?_)
    exact w_i (PB := (fun H => MdAt D cI cZ d S (nI 1) H)) rfl hB0 hS hx hb hr hlocks dX5_write_12
set_option maxHeartbeats 4000000 in
set_option maxRecDepth 100000 in
theorem c5_isTrue (l : Launch) (D : va_G) (cI cZ : ClassId) (d : Nat → Nat) (S : St) (th : Int32) (b : Nat) (hb4 : b < 4) (hI : Inv S) : Met l yX5_isTrue (ws_ yX5_isTrue cX5_isTrue 6 (some .boolean)) (rmN 1) (va_Pc [.ref (d 0), .int (nI (b))] (pz D [(cI, .int), (cZ, .boolean)] (fun H => MdAt D cI cZ d S th H))) (Pq (some (.int (bI true)))) 0 0 (fun _ => False) := by
  refine m_start (by decide) (Nat.le_of_ble_eq_true rfl) ?_
  intro p e s m below meth c hx hb hr hG hown hlocks hml hB ls hl
  have hl : lv_has ls 6 [(0, .ref (d 0)), (1, .int (nI (b)))] := hl
  obtain ⟨hB0, hK⟩ := hB
  obtain ⟨K, V, sz, cb, ck, ca, it, ou, hP, hMB, hMC, hMO⟩ := id hB0
  have hlen := hMB.at hb4
  have hN := hI.1 b hb4
  have TAIL : ∀ ls : Array Slot, lv_has ls 6 [(3, .int (nI 1)), (2, .int (hsL (S.1 b) (S.1 b).length)), (0, .ref (d 0)), (1, .int (nI b))] → W p l e (rmN 1) s m [.ref (d 0), .int (nI (b))].toArray below meth c s.heap [] 0 0 (MQ below (Pq (some (.int (bI true)))) [.ref (d 0), .int (nI (b))].toArray s 0 0 (fun _ => False)) (F0 m 109 ls []) := by
    intro ls hl
    refine lv_iconst (v := nI 0) hx hb dX5_isTrue_109 (by decide) ?_
    refine lv_istore (lv' := [(4, .int (nI (0))), (3, .int (nI (1))), (2, .int (hsL (S.1 b) (S.1 b).length)), (0, .ref (d 0)), (1, .int (nI (b)))]) hx hb dX5_isTrue_110 hl (by decide) rfl (fun ls hl => ?_)
    refine lv_iconst (v := nI 0) hx hb dX5_isTrue_112 (by decide) ?_
    refine lv_istore (lv' := [(5, .int (nI (0))), (4, .int (nI (0))), (3, .int (nI (1))), (2, .int (hsL (S.1 b) (S.1 b).length)), (0, .ref (d 0)), (1, .int (nI (b)))]) hx hb dX5_isTrue_113 hl (by decide) rfl (fun ls hl => ?_)
    suffices KK : ∀ (n i : Nat), (S.1 b).length < i + n → i ≤ (S.1 b).length → ∀ ls : Array Slot, lv_has ls 6 [(5, .int (nI (i))), (4, .int (hsL (S.1 b) i)), (3, .int (nI (1))), (2, .int (hsL (S.1 b) (S.1 b).length)), (0, .ref (d 0)), (1, .int (nI (b)))] → W p l e (rmN 1) s m [.ref (d 0), .int (nI (b))].toArray below meth c s.heap [] 0 0 (MQ below (Pq (some (.int (bI true)))) [.ref (d 0), .int (nI (b))].toArray s 0 0 (fun _ => False)) (F0 m 115 ls []) from KK ((S.1 b).length + 1) 0 (by omega) (by omega) ls (lv_sub hl [0, 1, 2, 3, 4, 5] rfl)
    clear hl
    intro n
    induction n with
    | zero => intro i h1 h2; omega
    | succ n ih =>
      intro i h1 h2 ls hl
      refine lv_iload hx hb dX5_isTrue_115 (lv_at hl 0 rfl) ?_
      refine lv_aload_n hx hb dX5_isTrue_117 rfl (lv_at hl 4 rfl) ?_
      refine gf_X5_16 hx hb hG hown hK hP 0 rfl rfl dX5_isTrue_118 ?_
      refine lv_iload_n hx hb dX5_isTrue_121 rfl (lv_at hl 5 rfl) ?_
      refine x_iald hx hb hK hP 3 0 rfl rfl (by omega) (by decide) dX5_isTrue_122 ?_
      rw [(hMB (b) (by omega)).1]
      refine x_cmp_ge (tgt := 164) hx hb dX5_isTrue_123 (by decide) (by omega) (by omega) (fun c1 => ?_) (fun c1 => ?_)
      · have ei : i = (S.1 b).length := by omega
        refine lv_iload_n hx hb dX5_isTrue_164 rfl (lv_at hl 2 rfl) ?_
        refine x_if_eq (tgt := 178) hx hb dX5_isTrue_165 (by decide) (by omega) (fun zc1 => False.elim (by first | exact absurd zc1 (by decide) | omega | (simp_all; done))) (fun zc1 => ?_)
        refine lv_iload_n hx hb dX5_isTrue_168 rfl (lv_at hl 3 rfl) ?_
        refine lv_iload hx hb dX5_isTrue_169 (lv_at hl 1 rfl) ?_
        refine lv_icmp_ne (tgt := 178) hx hb dX5_isTrue_171 (by decide) (fun c2 => ?_) (fun c2 => ?_)
        · exact absurd (by rw [ei]) c2
        · refine lv_iconst (v := nI 1) hx hb dX5_isTrue_174 (by decide) ?_
          refine lv_goto (tgt := 179) hx hb dX5_isTrue_175 (by decide) ?_
          exact e_z rfl hx hb hr hlocks dX5_isTrue_179
      · refine lv_iload hx hb dX5_isTrue_126 (lv_at hl 1 rfl) ?_
        refine lv_aload_n hx hb dX5_isTrue_128 rfl (lv_at hl 4 rfl) ?_
        refine gf_X5_7 hx hb hG hown hK hP 0 rfl rfl dX5_isTrue_129 ?_
        refine lv_sipush (v := nI 201) hx hb dX5_isTrue_132 (by decide) ?_
        refine lv_iload_n hx hb dX5_isTrue_135 rfl (lv_at hl 5 rfl) ?_
        refine x_imul (v := nI (201 * b)) hx hb dX5_isTrue_136 (pk_mul _ _) ?_
        refine lv_iload hx hb dX5_isTrue_137 (lv_at hl 0 rfl) ?_
        refine x_iadd (v := nI ((201 * b) + i)) hx hb dX5_isTrue_139 (nI_add _ _) ?_
        refine x_iald hx hb hK hP 1 0 rfl rfl (by omega) (by decide) dX5_isTrue_140 ?_
        rw [show K ((201 * b) + i) = kf (S.1 b) i from ((hMB b (by omega)).2.2 i (by omega)).1]
        refine lv_aload_n hx hb dX5_isTrue_141 rfl (lv_at hl 4 rfl) ?_
        refine gf_X5_13 hx hb hG hown hK hP 0 rfl rfl dX5_isTrue_142 ?_
        refine lv_sipush (v := nI 201) hx hb dX5_isTrue_145 (by decide) ?_
        refine lv_iload_n hx hb dX5_isTrue_148 rfl (lv_at hl 5 rfl) ?_
        refine x_imul (v := nI (201 * b)) hx hb dX5_isTrue_149 (pk_mul _ _) ?_
        refine lv_iload hx hb dX5_isTrue_150 (lv_at hl 0 rfl) ?_
        refine x_iadd (v := nI ((201 * b) + i)) hx hb dX5_isTrue_152 (nI_add _ _) ?_
        refine x_iald hx hb hK hP 2 0 rfl rfl (by omega) (by decide) dX5_isTrue_153 ?_
        rw [show V ((201 * b) + i) = vf (S.1 b) i from ((hMB b (by omega)).2.2 i (by omega)).2]
        refine x_ixor (v := (kf (S.1 b) i) ^^^ (vf (S.1 b) i)) hx hb dX5_isTrue_154 rfl ?_
        refine x_iadd (v := (hsL (S.1 b) i) + ((kf (S.1 b) i) ^^^ (vf (S.1 b) i))) hx hb dX5_isTrue_155 rfl ?_
        refine lv_istore (lv' := [(4, .int ((hsL (S.1 b) i) + ((kf (S.1 b) i) ^^^ (vf (S.1 b) i)))), (5, .int (nI (i))), (3, .int (nI (1))), (2, .int (hsL (S.1 b) (S.1 b).length)), (0, .ref (d 0)), (1, .int (nI (b)))]) hx hb dX5_isTrue_156 hl (by decide) rfl (fun ls hl => ?_)
        refine x_iinc (k := 1) (lv' := [(5, .int (nI (i + 1))), (4, .int ((hsL (S.1 b) i) + ((kf (S.1 b) i) ^^^ (vf (S.1 b) i)))), (3, .int (nI (1))), (2, .int (hsL (S.1 b) (S.1 b).length)), (0, .ref (d 0)), (1, .int (nI (b)))]) hx hb dX5_isTrue_158 hl rfl (by decide) rfl (fun ls hl => ?_)
        refine lv_goto (tgt := 115) hx hb dX5_isTrue_161 (by decide) ?_
        exact ih (i + 1) (by omega) (by omega) ls (lv_sub hl [0, 1, 2, 3, 4, 5] rfl)
  have KK : ∀ i, i ≤ (S.1 b).length → ∀ ls : Array Slot, lv_has ls 6 [(4, .int (dnI i)), (3, .int (nI (1))), (2, .int (hsU (S.1 b) ((S.1 b).length - i))), (0, .ref (d 0)), (1, .int (nI (b)))] → W p l e (rmN 1) s m [.ref (d 0), .int (nI (b))].toArray below meth c s.heap [] 0 0 (MQ below (Pq (some (.int (bI true)))) [.ref (d 0), .int (nI (b))].toArray s 0 0 (fun _ => False)) (F0 m 42 ls []) := by
    intro i
    induction i with
    | zero =>
      intro h1 ls hl
      have hl : lv_has ls 6 [(4, .int ((-1))), (3, .int (nI (1))), (2, .int (hsU (S.1 b) (S.1 b).length)), (0, .ref (d 0)), (1, .int (nI (b)))] := hl
      refine lv_iload hx hb dX5_isTrue_42 (lv_at hl 0 rfl) ?_
      refine lv_if_lt (tgt := 109) hx hb dX5_isTrue_44 (by decide) (fun zc2 => ?_) (fun zc2 => False.elim (by first | omega | contradiction | exact absurd zc2 (m1_ne _ (by omega)) | exact absurd zc2 (by decide) | exact absurd (Eq.symm zc2) (m1_ne _ (by omega)) | (simp_all; done)))
      exact TAIL ls (by rw [← hsU_all]; exact (lv_sub hl [1, 2, 3, 4] rfl))
    | succ i ih =>
      intro h1 ls hl
      have hl : lv_has ls 6 [(4, .int (nI (i))), (3, .int (nI (1))), (2, .int (hsU (S.1 b) ((S.1 b).length - (i + 1)))), (0, .ref (d 0)), (1, .int (nI (b)))] := hl
      refine lv_iload hx hb dX5_isTrue_42 (lv_at hl 0 rfl) ?_
      refine lv_if_lt (tgt := 109) hx hb dX5_isTrue_44 (by decide) (fun zc3 => False.elim (by exact nI_nneg (by omega) zc3)) (fun zc3 => ?_)
      refine lv_iload_n hx hb dX5_isTrue_47 rfl (lv_at hl 1 rfl) ?_
      refine x_if_eq (tgt := 109) hx hb dX5_isTrue_48 (by decide) (by omega) (fun zc4 => False.elim (by first | exact absurd zc4 (by decide) | omega | (simp_all; done))) (fun zc4 => ?_)
      refine lv_aload_n hx hb dX5_isTrue_51 rfl (lv_at hl 3 rfl) ?_
      refine gf_X5_7 hx hb hG hown hK hP 0 rfl rfl dX5_isTrue_52 ?_
      refine lv_sipush (v := nI 201) hx hb dX5_isTrue_55 (by decide) ?_
      refine lv_iload_n hx hb dX5_isTrue_58 rfl (lv_at hl 4 rfl) ?_
      refine x_imul (v := nI (201 * b)) hx hb dX5_isTrue_59 (pk_mul _ _) ?_
      refine lv_iload hx hb dX5_isTrue_60 (lv_at hl 0 rfl) ?_
      refine x_iadd (v := nI ((201 * b) + i)) hx hb dX5_isTrue_62 (nI_add _ _) ?_
      refine x_iald hx hb hK hP 1 0 rfl rfl (by omega) (by decide) dX5_isTrue_63 ?_
      rw [show K ((201 * b) + i) = kf (S.1 b) i from ((hMB b (by omega)).2.2 i (by omega)).1]
      refine lv_istore (lv' := [(5, .int (kf (S.1 b) i)), (4, .int (nI (i))), (3, .int (nI (1))), (2, .int (hsU (S.1 b) ((S.1 b).length - (i + 1)))), (0, .ref (d 0)), (1, .int (nI (b)))]) hx hb dX5_isTrue_64 hl (by decide) rfl (fun ls hl => ?_)
      refine lv_aload_n hx hb dX5_isTrue_66 rfl (lv_at hl 4 rfl) ?_
      refine lv_iload_n hx hb dX5_isTrue_67 rfl (lv_at hl 5 rfl) ?_
      refine lv_iload hx hb dX5_isTrue_68 (lv_at hl 0 rfl) ?_
      refine k1_V hx hb hml hown hG cs_X5_50 (by have h := c5_place l D cI cZ d S th b (kf (S.1 b) i) (by omega); rw [ND_fx hN.1 (show i < (S.1 b).length by omega)] at h; exact h) (by decide) (pzV hK rfl hB0.rc hB0) rfl hl.1 rfl (Nat.le_of_ble_eq_true rfl) dX5_isTrue_70 ⟨Nat.zero_le _, Nat.zero_le _⟩ rfl ?_
      refine lv_iload hx hb dX5_isTrue_73 (lv_at hl 1 rfl) ?_
      refine x_cmp_ne (tgt := 82) hx hb dX5_isTrue_75 (by decide) (by omega) (by omega) (fun zc5 => False.elim (by first | omega | contradiction | exact absurd zc5 (m1_ne _ (by omega)) | exact absurd zc5 (by decide) | exact absurd (Eq.symm zc5) (m1_ne _ (by omega)) | (simp_all; done))) (fun zc5 => ?_)
      refine lv_iconst (v := nI 1) hx hb dX5_isTrue_78 (by decide) ?_
      refine lv_goto (tgt := 83) hx hb dX5_isTrue_79 (by decide) ?_
      refine lv_istore_n (lv' := [(3, .int (nI (1))), (5, .int (kf (S.1 b) i)), (4, .int (nI (i))), (2, .int (hsU (S.1 b) ((S.1 b).length - (i + 1)))), (0, .ref (d 0)), (1, .int (nI (b)))]) hx hb dX5_isTrue_83 rfl hl (by decide) rfl (fun ls hl => ?_)
      refine lv_iload_n hx hb dX5_isTrue_84 rfl (lv_at hl 3 rfl) ?_
      refine lv_iload hx hb dX5_isTrue_85 (lv_at hl 1 rfl) ?_
      refine lv_aload_n hx hb dX5_isTrue_87 rfl (lv_at hl 4 rfl) ?_
      refine gf_X5_13 hx hb hG hown hK hP 0 rfl rfl dX5_isTrue_88 ?_
      refine lv_sipush (v := nI 201) hx hb dX5_isTrue_91 (by decide) ?_
      refine lv_iload_n hx hb dX5_isTrue_94 rfl (lv_at hl 5 rfl) ?_
      refine x_imul (v := nI (201 * b)) hx hb dX5_isTrue_95 (pk_mul _ _) ?_
      refine lv_iload hx hb dX5_isTrue_96 (lv_at hl 2 rfl) ?_
      refine x_iadd (v := nI ((201 * b) + i)) hx hb dX5_isTrue_98 (nI_add _ _) ?_
      refine x_iald hx hb hK hP 2 0 rfl rfl (by omega) (by decide) dX5_isTrue_99 ?_
      rw [show V ((201 * b) + i) = vf (S.1 b) i from ((hMB b (by omega)).2.2 i (by omega)).2]
      refine x_ixor (v := (kf (S.1 b) i) ^^^ (vf (S.1 b) i)) hx hb dX5_isTrue_100 rfl ?_
      refine x_iadd (v := (hsU (S.1 b) ((S.1 b).length - (i + 1))) + ((kf (S.1 b) i) ^^^ (vf (S.1 b) i))) hx hb dX5_isTrue_101 rfl ?_
      refine lv_istore_n (lv' := [(2, .int ((hsU (S.1 b) ((S.1 b).length - (i + 1))) + ((kf (S.1 b) i) ^^^ (vf (S.1 b) i)))), (3, .int (nI (1))), (5, .int (kf (S.1 b) i)), (4, .int (nI (i))), (0, .ref (d 0)), (1, .int (nI (b)))]) hx hb dX5_isTrue_102 rfl hl (by decide) rfl (fun ls hl => ?_)
      refine lv_iinc (k := 3) (v := dnI i) (lv' := [(4, .int (dnI i)), (2, .int ((hsU (S.1 b) ((S.1 b).length - (i + 1))) + ((kf (S.1 b) i) ^^^ (vf (S.1 b) i)))), (3, .int (nI (1))), (5, .int (kf (S.1 b) i)), (0, .ref (d 0)), (1, .int (nI (b)))]) hx hb dX5_isTrue_103 hl rfl (dnI_step _) (by decide) rfl (fun ls hl => ?_)
      refine lv_goto (tgt := 42) hx hb dX5_isTrue_106 (by decide) ?_
      rw [hsU_s (S.1 b) (show i < (S.1 b).length by omega)] at hl
      exact ih (by omega) ls (lv_sub hl [0, 2, 1, 4, 5] rfl)
  have hl9 := hl
  by_cases h2 : b = 2
  · skip
    have hbb : (S.1 b).length ≤ S.2.1 := by rw [h2]; exact hI.2.1
    have hb40 : S.2.1 ≤ 40 := hI.2.2.2.1
    refine lv_iconst (v := nI 0) hx hb dX5_isTrue_0 (by decide) ?_
    refine lv_istore_n (lv' := [(2, .int (nI (0))), (0, .ref (d 0)), (1, .int (nI (b)))]) hx hb dX5_isTrue_1 rfl hl (by decide) rfl (fun ls hl => ?_)
    refine lv_aload_n hx hb dX5_isTrue_2 rfl (lv_at hl 1 rfl) ?_
    refine gf_X5_16 hx hb hG hown hK hP 0 rfl rfl dX5_isTrue_3 ?_
    refine lv_iload_n hx hb dX5_isTrue_6 rfl (lv_at hl 2 rfl) ?_
    refine x_iald hx hb hK hP 3 0 rfl rfl (by omega) (by decide) dX5_isTrue_7 ?_
    rw [(hMB (b) (by omega)).1]
    refine lv_iload_n hx hb dX5_isTrue_8 rfl (lv_at hl 2 rfl) ?_
    refine lv_iconst (v := nI 2) hx hb dX5_isTrue_9 (by decide) ?_
    refine x_cmp_ne (tgt := 20) hx hb dX5_isTrue_10 (by decide) (by omega) (by omega) (fun zc6 => False.elim (by first | omega | contradiction | exact absurd zc6 (m1_ne _ (by omega)) | exact absurd zc6 (by decide) | exact absurd (Eq.symm zc6) (m1_ne _ (by omega)) | (simp_all; done))) (fun zc6 => ?_)
    refine lv_aload_n hx hb dX5_isTrue_13 rfl (lv_at hl 1 rfl) ?_
    refine gf_X5_19 hx hb hG hown hK hP 0 rfl rfl dX5_isTrue_14 ?_
    refine lv_goto (tgt := 23) hx hb dX5_isTrue_17 (by decide) ?_
    refine x_cmp_gt (tgt := 30) hx hb dX5_isTrue_23 (by decide) (by omega) (by omega) (fun zc7 => False.elim (by first | omega | contradiction | exact absurd zc7 (m1_ne _ (by omega)) | exact absurd zc7 (by decide) | exact absurd (Eq.symm zc7) (m1_ne _ (by omega)) | (simp_all; done))) (fun zc7 => ?_)
    refine lv_iconst (v := nI 1) hx hb dX5_isTrue_26 (by decide) ?_
    refine lv_goto (tgt := 31) hx hb dX5_isTrue_27 (by decide) ?_
    refine lv_istore_n (lv' := [(3, .int (nI (1))), (2, .int (nI (0))), (0, .ref (d 0)), (1, .int (nI (b)))]) hx hb dX5_isTrue_31 rfl hl (by decide) rfl (fun ls hl => ?_)
    refine lv_aload_n hx hb dX5_isTrue_32 rfl (lv_at hl 2 rfl) ?_
    refine gf_X5_16 hx hb hG hown hK hP 0 rfl rfl dX5_isTrue_33 ?_
    refine lv_iload_n hx hb dX5_isTrue_36 rfl (lv_at hl 3 rfl) ?_
    refine x_iald hx hb hK hP 3 0 rfl rfl (by omega) (by decide) dX5_isTrue_37 ?_
    rw [(hMB (b) (by omega)).1]
    rcases Nat.eq_zero_or_pos (S.1 b).length with e0 | e0
    · skip
      refine lv_iconst (v := nI 1) hx hb dX5_isTrue_38 (by decide) ?_
      refine x_isub (v := (nI ((S.1 b).length)) - (nI (1))) hx hb dX5_isTrue_39 rfl ?_
      refine lv_istore (lv' := [(4, .int ((nI ((S.1 b).length)) - (nI (1)))), (3, .int (nI (1))), (2, .int (nI (0))), (0, .ref (d 0)), (1, .int (nI (b)))]) hx hb dX5_isTrue_40 hl (by decide) rfl (fun ls hl => ?_)
      exact KK 0 (by omega) ls (by rw [e0] at hl ⊢; exact (lv_sub hl [0, 1, 2, 3, 4] rfl))
    · skip
      refine lv_iconst (v := nI 1) hx hb dX5_isTrue_38 (by decide) ?_
      refine x_isub (v := nI (((S.1 b).length) - 1)) hx hb dX5_isTrue_39 (pk_sub (by omega)) ?_
      refine lv_istore (lv' := [(4, .int (nI (((S.1 b).length) - 1))), (3, .int (nI (1))), (2, .int (nI (0))), (0, .ref (d 0)), (1, .int (nI (b)))]) hx hb dX5_isTrue_40 hl (by decide) rfl (fun ls hl => ?_)
      exact KK (S.1 b).length (by omega) ls (by rw [Nat.sub_self, show dnI (S.1 b).length = nI ((S.1 b).length - 1) from by obtain ⟨m, hm⟩ : ∃ m, (S.1 b).length = m + 1 := ⟨(S.1 b).length - 1, by omega⟩; rw [hm]; rfl]; exact (lv_sub hl [0, 1, 2, 3, 4] rfl))
  · skip
    have hb40 : S.2.1 ≤ 40 := hI.2.2.2.1
    refine lv_iconst (v := nI 0) hx hb dX5_isTrue_0 (by decide) ?_
    refine lv_istore_n (lv' := [(2, .int (nI (0))), (0, .ref (d 0)), (1, .int (nI (b)))]) hx hb dX5_isTrue_1 rfl hl (by decide) rfl (fun ls hl => ?_)
    refine lv_aload_n hx hb dX5_isTrue_2 rfl (lv_at hl 1 rfl) ?_
    refine gf_X5_16 hx hb hG hown hK hP 0 rfl rfl dX5_isTrue_3 ?_
    refine lv_iload_n hx hb dX5_isTrue_6 rfl (lv_at hl 2 rfl) ?_
    refine x_iald hx hb hK hP 3 0 rfl rfl (by omega) (by decide) dX5_isTrue_7 ?_
    rw [(hMB (b) (by omega)).1]
    refine lv_iload_n hx hb dX5_isTrue_8 rfl (lv_at hl 2 rfl) ?_
    refine lv_iconst (v := nI 2) hx hb dX5_isTrue_9 (by decide) ?_
    refine x_cmp_ne (tgt := 20) hx hb dX5_isTrue_10 (by decide) (by omega) (by omega) (fun zc8 => ?_) (fun zc8 => False.elim (by first | omega | contradiction | exact absurd zc8 (m1_ne _ (by omega)) | exact absurd zc8 (by decide) | exact absurd (Eq.symm zc8) (m1_ne _ (by omega)) | (simp_all; done)))
    refine lv_sipush (v := nI 200) hx hb dX5_isTrue_20 (by decide) ?_
    refine x_cmp_gt (tgt := 30) hx hb dX5_isTrue_23 (by decide) (by omega) (by omega) (fun zc9 => False.elim (by first | omega | contradiction | exact absurd zc9 (m1_ne _ (by omega)) | exact absurd zc9 (by decide) | exact absurd (Eq.symm zc9) (m1_ne _ (by omega)) | (simp_all; done))) (fun zc9 => ?_)
    refine lv_iconst (v := nI 1) hx hb dX5_isTrue_26 (by decide) ?_
    refine lv_goto (tgt := 31) hx hb dX5_isTrue_27 (by decide) ?_
    refine lv_istore_n (lv' := [(3, .int (nI (1))), (2, .int (nI (0))), (0, .ref (d 0)), (1, .int (nI (b)))]) hx hb dX5_isTrue_31 rfl hl (by decide) rfl (fun ls hl => ?_)
    refine lv_aload_n hx hb dX5_isTrue_32 rfl (lv_at hl 2 rfl) ?_
    refine gf_X5_16 hx hb hG hown hK hP 0 rfl rfl dX5_isTrue_33 ?_
    refine lv_iload_n hx hb dX5_isTrue_36 rfl (lv_at hl 3 rfl) ?_
    refine x_iald hx hb hK hP 3 0 rfl rfl (by omega) (by decide) dX5_isTrue_37 ?_
    rw [(hMB (b) (by omega)).1]
    rcases Nat.eq_zero_or_pos (S.1 b).length with e0 | e0
    · skip
      refine lv_iconst (v := nI 1) hx hb dX5_isTrue_38 (by decide) ?_
      refine x_isub (v := (nI ((S.1 b).length)) - (nI (1))) hx hb dX5_isTrue_39 rfl ?_
      refine lv_istore (lv' := [(4, .int ((nI ((S.1 b).length)) - (nI (1)))), (3, .int (nI (1))), (2, .int (nI (0))), (0, .ref (d 0)), (1, .int (nI (b)))]) hx hb dX5_isTrue_40 hl (by decide) rfl (fun ls hl => ?_)
      exact KK 0 (by omega) ls (by rw [e0] at hl ⊢; exact (lv_sub hl [0, 1, 2, 3, 4] rfl))
    · skip
      refine lv_iconst (v := nI 1) hx hb dX5_isTrue_38 (by decide) ?_
      refine x_isub (v := nI (((S.1 b).length) - 1)) hx hb dX5_isTrue_39 (pk_sub (by omega)) ?_
      refine lv_istore (lv' := [(4, .int (nI (((S.1 b).length) - 1))), (3, .int (nI (1))), (2, .int (nI (0))), (0, .ref (d 0)), (1, .int (nI (b)))]) hx hb dX5_isTrue_40 hl (by decide) rfl (fun ls hl => ?_)
      exact KK (S.1 b).length (by omega) ls (by rw [Nat.sub_self, show dnI (S.1 b).length = nI ((S.1 b).length - 1) from by obtain ⟨m, hm⟩ : ∃ m, (S.1 b).length = m + 1 := ⟨(S.1 b).length - 1, by omega⟩; rw [hm]; rfl]; exact (lv_sub hl [0, 1, 2, 3, 4] rfl))
set_option maxHeartbeats 4000000 in
set_option maxRecDepth 100000 in
theorem m_errors (l : Launch) (D : va_G) (cI cZ : ClassId) (d : Nat → Nat) (S : St) (th : Int32) (hI : Inv S) (hap : Ap d 9) : Met l yX5_errors (ws_ yX5_errors cX5_errors 3 (some .int)) (rmN 4) (va_Pc [.ref (d 0)] (pz D [(cI, .int), (cZ, .boolean)] (fun H => MdAt D cI cZ d S th H))) (Wq (some (.int (sp_errors S).2.1)) (fun H => MdAt D cI cZ d (sp_errors S).2.2 (nI (sp_errors S).1) H) (Ao d 9)) 0 0 (Ao d 9) := by
  have hbd2 : S.2.1 ≤ 40 := hI.2.2.2.1
  have hCC : ∀ cu, cu < 3 → ∀ y, S.2.2.1 cu = some y → y.1 < 4 := fun cu hcu y hy => by have h := hI.2.2.2.2.1 cu hcu; rw [hy] at h; exact h.1
  have e9 : sp_errors S = (0, 0, S) := rfl
  rw [e9]
  refine m_start (by decide) (Nat.le_of_ble_eq_true rfl) ?_
  intro p e s m below meth c hx hb hr hG hown hlocks hml hB ls hl
  have hl : lv_has ls 3 [(0, .ref (d 0))] := hl
  obtain ⟨hB0, hK⟩ := hB
  have hS : va_S (Ao d 9) s.heap s.heap [] := va_S.rf
  refine lv_iconst (v := nI 0) hx hb dX5_errors_0 (by decide) ?_
  refine lv_istore_n (lv' := [(1, .int (nI (0))), (0, .ref (d 0))]) hx hb dX5_errors_1 rfl hl (by decide) rfl (fun ls hl => ?_)
  refine lv_iconst (v := nI 0) hx hb dX5_errors_2 (by decide) ?_
  refine lv_istore_n (lv' := [(2, .int (nI (0))), (1, .int (nI (0))), (0, .ref (d 0))]) hx hb dX5_errors_3 rfl hl (by decide) rfl (fun ls hl => ?_)
  suffices KK : ∀ (n i : Nat), 4 < i + n → i ≤ 4 → ∀ ls : Array Slot, lv_has ls 3 [(2, .int (nI (i))), (1, .int (nI (0))), (0, .ref (d 0))] → W p l e (rmN 4) s m [.ref (d 0)].toArray below meth c s.heap [] 0 0 (MQ below (Wq (some (.int 0)) (fun H => MdAt D cI cZ d S (nI 0) H) (Ao d 9)) [.ref (d 0)].toArray s 0 0 (Ao d 9)) (F0 m 4 ls []) from KK (4 + 1) 0 (by omega) (by omega) ls (lv_sub hl [0, 1, 2] rfl)
  clear hl
  intro n
  induction n with
  | zero => intro i h1 h2; omega
  | succ n ih =>
    intro i h1 h2 ls hl
    refine lv_iload_n hx hb dX5_errors_4 rfl (lv_at hl 0 rfl) ?_
    refine lv_iconst (v := nI 4) hx hb dX5_errors_5 (by decide) ?_
    refine x_cmp_ge (tgt := 31) hx hb dX5_errors_6 (by decide) (by omega) (by omega) (fun c1 => ?_) (fun c1 => ?_)
    · refine lv_aload_n hx hb dX5_errors_31 rfl (lv_at hl 2 rfl) ?_
      refine lv_iload_n hx hb dX5_errors_32 rfl (lv_at hl 1 rfl) ?_
      refine k2_V hx hb hml hown hG cs_X5_65 (c5_told l D cI cZ d S th (nI (0)) hap) (by decide) (pzV hK rfl hB0.rc hB0) rfl hl.1 rfl (Nat.le_of_ble_eq_true rfl) dX5_errors_33 ⟨Nat.zero_le _, Nat.zero_le _⟩ rfl hS (fun q h => h) (fun H locs hB0 hz hk hS => ?_)
      exact w_i (PB := (fun H => MdAt D cI cZ d S (nI 0) H)) rfl hB0 hS hx hb hr hlocks dX5_errors_36
    · refine lv_iload_n hx hb dX5_errors_9 rfl (lv_at hl 1 rfl) ?_
      refine lv_aload_n hx hb dX5_errors_10 rfl (lv_at hl 2 rfl) ?_
      refine lv_iload_n hx hb dX5_errors_11 rfl (lv_at hl 0 rfl) ?_
      refine k1_V hx hb hml hown hG cs_X5_123 (c5_isTrue l D cI cZ d S th i (by omega) hI) (by decide) (pzV hK rfl hB0.rc hB0) rfl hl.1 rfl (Nat.le_of_ble_eq_true rfl) dX5_errors_12 ⟨Nat.zero_le _, Nat.zero_le _⟩ rfl ?_
      refine x_ifb_eq (tgt := 22) hx hb dX5_errors_15 (by decide) (fun zc1 => False.elim (by first | exact absurd zc1 (by decide) | omega | (simp_all; done))) (fun zc1 => ?_)
      refine lv_iconst (v := nI 0) hx hb dX5_errors_18 (by decide) ?_
      refine lv_goto (tgt := 23) hx hb dX5_errors_19 (by decide) ?_
      refine x_iadd (v := nI (0 + 0)) hx hb dX5_errors_23 (nI_add _ _) ?_
      refine lv_istore_n (lv' := [(1, .int (nI (0 + 0))), (2, .int (nI (i))), (0, .ref (d 0))]) hx hb dX5_errors_24 rfl hl (by decide) rfl (fun ls hl => ?_)
      refine x_iinc (k := 1) (lv' := [(2, .int (nI (i + 1))), (1, .int (nI (0 + 0))), (0, .ref (d 0))]) hx hb dX5_errors_25 hl rfl (by decide) rfl (fun ls hl => ?_)
      refine lv_goto (tgt := 4) hx hb dX5_errors_28 (by decide) ?_
      exact ih (i + 1) (by omega) (by omega) ls (lv_sub hl [0, 1, 2] rfl)
