set_option maxHeartbeats 4000000 in
set_option maxRecDepth 100000 in
theorem ok_fill (l : Launch) (D : va_G) (cI cC : ClassId) (ad : Nat → Nat) (S : St) (N : Nat) (x from_ step many : Int32) (hI : Inv S) (hN : N + 2000 < 2 ^ 31) (hap : Ap ad 36) (hok : (sp_fill S x from_ step many).1 = 0) : Met l yX4_fill (ws_ yX4_fill cX4_fill 8 (some .int)) (rmN 6) (va_Pc [.ref (ad 0), .int x, .int from_, .int step, .int many] (pz D [(cI, .int), (cC, .char)] (fun H => Wc D cI cC ad S N H))) (Wq (some (.int (sp_fill S x from_ step many).2.1)) (fun H => Wc D cI cC ad (sp_fill S x from_ step many).2.2 (N + 2000) H) (Ao ad 36)) 0 0 (Ao ad 36) := by
  have hbd2 : S.2.1 ≤ 40 := hI.2.2.2.1
  have hCC : ∀ cu, cu < 3 → ∀ y, S.2.2.1 cu = some y → y.1 < 4 := fun cu hcu y hy => by have h := hI.2.2.2.2.1 cu hcu; rw [hy] at h; exact h.1
  rcases bkn_cases 4 (by decide) x with ⟨b, hb4, rfl, hbk⟩ | ⟨hbk, hno⟩
  · skip
    have hN2 := hI.1 b hb4
    rcases bkn_cases 61 (by decide) many with ⟨k, hk6, rfl, hbm⟩ | ⟨hbm, hnom⟩
    · skip
      by_cases h3 : b = 3
      · have e9 : sp_fill S (nI b) from_ step (nI k) = (2, 0, S) := by unfold sp_fill; rw [hbk, hbm]; exact if_pos h3
        rw [e9] at hok
        exact absurd hok (by show ¬ (2 : Nat) = 0; decide)
      · by_cases hov : b ≠ 2 ∧ 140 < (S.1 b).length
        · have e9 : sp_fill S (nI b) from_ step (nI k) = (3, 0, S) := by unfold sp_fill; rw [hbk, hbm]; exact (if_neg h3).trans (if_pos hov)
          rw [e9] at hok
          exact absurd hok (by show ¬ (3 : Nat) = 0; decide)
        · skip
          have e9 : sp_fill S (nI (b)) from_ step (nI (k)) = (0, nI (fiA (lgO b) S.2.1 (S.1 b) from_ step k).1.length, clB (upB S b (fiA (lgO b) S.2.1 (S.1 b) from_ step k).1) b (-1)) := by unfold sp_fill; rw [hbk, hbm]; exact (if_neg h3).trans (if_neg hov)
          rw [e9]
          refine m_start (by decide) (Nat.le_of_ble_eq_true rfl) ?_
          intro p e s m below meth c hx hb hr hG hown hlocks hml hB ls hl
          have hl : lv_has ls 8 [(0, .ref (ad 0)), (1, .int (nI (b))), (2, .int (from_)), (3, .int (step)), (4, .int (nI (k)))] := hl
          obtain ⟨hW, hK⟩ := hB
          have hS : va_S (Ao ad 36) s.heap s.heap [] := va_S.rf
          have hrm : lgO b = true ∨ (S.1 b).length + 60 ≤ bdO S b := by
            by_cases e : b = 2
            · exact Or.inl (decide_eq_true e)
            · right
              unfold bdO
              rw [if_neg e]
              omega
          have hfl : ∀ i, i < k → (fiA (lgO b) S.2.1 (S.1 b) from_ step i).1.length < 200 := fun i hi => by
            by_cases e : b = 2
            · subst e
              have h := fiA_len_b (bd := S.2.1) from_ step hI.2.1 i
              exact Nat.lt_of_le_of_lt h (by omega)
            · have h := fiA_len (lgO b) S.2.1 (S.1 b) from_ step i
              omega
          refine lv_aload_n hx hb dX4_fill_0 rfl (lv_at hl 0 rfl) ?_
          refine lv_iload_n hx hb dX4_fill_1 rfl (lv_at hl 1 rfl) ?_
          refine k1_V hx hb hml hown hG cs_X4_71 (k_bookChangedByHand l D cI cC ad S N b (by omega)) (by decide) (pzV hK rfl hW.rc hW) rfl hl.1 rfl (Nat.le_of_ble_eq_true rfl) dX4_fill_2 ⟨Nat.zero_le _, Nat.zero_le _⟩ rfl ?_
          refine lv_astore (lv' := [(5, .ref ((bk_ ad b) 0)), (0, .ref (ad 0)), (1, .int (nI (b))), (2, .int (from_)), (3, .int (step)), (4, .int (nI (k)))]) hx hb dX4_fill_5 hl (by decide) rfl (fun ls hl => ?_)
          refine lv_iload hx hb dX4_fill_7 (lv_at hl 5 rfl) ?_
          refine lv_if_lt (tgt := 19) hx hb dX4_fill_9 (by decide) (fun zc1 => False.elim (by exact nI_nneg (by omega) zc1)) (fun zc1 => ?_)
          refine lv_iload hx hb dX4_fill_12 (lv_at hl 5 rfl) ?_
          refine lv_bipush (v := nI 60) hx hb dX4_fill_14 (by decide) ?_
          refine x_cmp_le (tgt := 29) hx hb dX4_fill_16 (by decide) (by omega) (by omega) (fun zc2 => ?_) (fun zc2 => False.elim (by first | omega | contradiction | exact absurd zc2 (m1_ne _ (by omega)) | exact absurd zc2 (by decide) | exact absurd (Eq.symm zc2) (m1_ne _ (by omega)) | (simp_all; done)))
          refine lv_aload_n hx hb dX4_fill_29 rfl (lv_at hl 1 rfl) ?_
          refine lv_aload hx hb dX4_fill_30 (lv_at hl 0 rfl) ?_
          refine lv_bipush (v := nI 60) hx hb dX4_fill_32 (by decide) ?_
          refine k1_V hx hb hml hown hG cs_X4_110 (k_requireRoom l D cI cC ad S N b 60 (by omega) (by omega) (bdO_le hI b) (hrm)) (by decide) (pzV hK rfl hW.rc hW) rfl hl.1 rfl (Nat.le_of_ble_eq_true rfl) dX4_fill_34 ⟨Nat.zero_le _, Nat.zero_le _⟩ rfl ?_
          refine lv_aload_n hx hb dX4_fill_37 rfl (lv_at hl 1 rfl) ?_
          refine lv_iload_n hx hb dX4_fill_38 rfl (lv_at hl 2 rfl) ?_
          refine lv_iconst (v := (-1)) hx hb dX4_fill_39 (by decide) ?_
          refine k2_V hx hb hml hown hG cs_X4_67 (k_closeCursors l D cI cC ad S N b (-1) (by omega) hCC hap) (by decide) (pzV hK rfl hW.rc hW) rfl hl.1 rfl (Nat.le_of_ble_eq_true rfl) dX4_fill_40 ⟨Nat.zero_le _, Nat.zero_le _⟩ rfl hS (fun q h => h) (fun H locs hW hz hk hS => ?_)
          refine lv_iload_n hx hb dX4_fill_43 rfl (lv_at hl 3 rfl) ?_
          refine lv_istore (lv' := [(6, .int (from_)), (5, .ref ((bk_ ad b) 0)), (0, .ref (ad 0)), (1, .int (nI (b))), (2, .int (from_)), (3, .int (step)), (4, .int (nI (k)))]) hx hb dX4_fill_44 hl (by decide) rfl (fun ls hl => ?_)
          refine lv_iconst (v := nI 0) hx hb dX4_fill_46 (by decide) ?_
          refine lv_istore (lv' := [(7, .int (nI (0))), (6, .int (from_)), (5, .ref ((bk_ ad b) 0)), (0, .ref (ad 0)), (1, .int (nI (b))), (2, .int (from_)), (3, .int (step)), (4, .int (nI (k)))]) hx hb dX4_fill_47 hl (by decide) rfl (fun ls hl => ?_)
          suffices KK : ∀ (n i : Nat), k < i + n → i ≤ k → ∀ (H : Heap) (locs : List Loc), Wc D cI cC ad (upB (clB S b (-1)) b (fiA (lgO b) S.2.1 (S.1 b) from_ step i).1) (N + i) H → va_S (Ao ad 36) s.heap H locs → ∀ ls : Array Slot, lv_has ls 8 [(7, .int (nI (i))), (6, .int ((fiA (lgO b) S.2.1 (S.1 b) from_ step i).2)), (5, .ref ((bk_ ad b) 0)), (0, .ref (ad 0)), (1, .int (nI (b))), (2, .int (from_)), (3, .int (step)), (4, .int (nI (k)))] → W p l e (rmN 6) s m [.ref (ad 0), .int (nI (b)), .int (from_), .int (step), .int (nI (k))].toArray below meth c H locs 0 0 (MQ below (Wq (some (.int (nI (fiA (lgO b) S.2.1 (S.1 b) from_ step k).1.length))) (fun H => Wc D cI cC ad (clB (upB S b (fiA (lgO b) S.2.1 (S.1 b) from_ step k).1) b (-1)) (N + 2000) H) (Ao ad 36)) [.ref (ad 0), .int (nI (b)), .int (from_), .int (step), .int (nI (k))].toArray s 0 0 (Ao ad 36)) (F0 m 49 ls []) from KK (k + 1) 0 (by omega) (by omega) H locs (by rw [show (upB (clB S b (-1)) b (fiA (lgO b) S.2.1 (S.1 b) from_ step 0).1) = clB S b (-1) from upB_id (clB S b (-1)) b]; exact hW) hS ls (lv_sub hl [0, 1, 2, 3, 4, 5, 6, 7] rfl)
          clear hW hS hl
          intro n
          induction n with
          | zero => intro i h1 h2; omega
          | succ n ih =>
            intro i h1 h2 H locs hW hS ls hl
            refine lv_iload hx hb dX4_fill_49 (lv_at hl 0 rfl) ?_
            refine lv_iload hx hb dX4_fill_51 (lv_at hl 7 rfl) ?_
            refine x_cmp_ge (tgt := 77) hx hb dX4_fill_53 (by decide) (by omega) (by omega) (fun c1 => ?_) (fun c1 => ?_)
            · have ei : i = k := by omega
              rw [ei] at hW
              refine lv_aload hx hb dX4_fill_77 (lv_at hl 2 rfl) ?_
              refine gf_X4_57 hx hb hG hown hK (hW.bk (b := b) (by omega)).1.obj 0 rfl rfl dX4_fill_79 ?_
              exact w_i (PB := (fun H => Wc D cI cC ad (clB (upB S b (fiA (lgO b) S.2.1 (S.1 b) from_ step k).1) b (-1)) (N + 2000) H)) (by rw [upB_at]) (hW.mono (by omega)) hS hx hb hr hlocks dX4_fill_82
            · cases hf : fx (fiA (lgO b) S.2.1 (S.1 b) from_ step i).1 (fiA (lgO b) S.2.1 (S.1 b) from_ step i).2 with
              | none =>
                refine lv_aload hx hb dX4_fill_56 (lv_at hl 2 rfl) ?_
                refine lv_iload hx hb dX4_fill_58 (lv_at hl 1 rfl) ?_
                refine lv_iconst (v := nI 0) hx hb dX4_fill_60 (by decide) ?_
                refine k2_V hx hb hml hown hG cs_X4_79 (c_store_no l D cI (bk_ ad b) (lgO b) (bdO S b) (fiA (lgO b) S.2.1 (S.1 b) from_ step i).1 (N + i) ((fiA (lgO b) S.2.1 (S.1 b) from_ step i).2) (nI (0)) hf (hfl i (by omega)) (fiA_ND from_ step hN2.1 i) (bdO_le hI b) (by omega) (bk_Ap (by omega) hap)) (by decide) (pzV (hK.sub (tys' := [(cI, .int)]) [0] rfl) rfl (hW.bkU (b := b) (by omega)).1.rc (hW.bkU (b := b) (by omega))) rfl hl.1 rfl (Nat.le_of_ble_eq_true rfl) dX4_fill_61 ⟨Nat.zero_le _, Nat.zero_le _⟩ rfl hS (bk_Ao (by omega)) (fun H locs hB0 hz hk hS => ?_)
                rw [stq_bd] at hB0
                have hW := hW.book hap (b := b) (by omega) bk_A hk (M := N + i + 1) (by omega) hB0
                rw [upB_up] at hW
                have hW : Wc D cI cC ad (upB (clB S b (-1)) b (fiA (lgO b) S.2.1 (S.1 b) from_ step (i + 1)).1) (N + (i + 1)) H := hW
                refine lv_pop hx hb dX4_fill_64 rfl ?_
                refine lv_iload hx hb dX4_fill_65 (lv_at hl 1 rfl) ?_
                refine lv_iload_n hx hb dX4_fill_67 rfl (lv_at hl 6 rfl) ?_
                refine x_iadd (v := ((fiA (lgO b) S.2.1 (S.1 b) from_ step i).2) + step) hx hb dX4_fill_68 rfl ?_
                refine lv_istore (lv' := [(6, .int (((fiA (lgO b) S.2.1 (S.1 b) from_ step i).2) + step)), (7, .int (nI (i))), (5, .ref ((bk_ ad b) 0)), (0, .ref (ad 0)), (1, .int (nI (b))), (2, .int (from_)), (3, .int (step)), (4, .int (nI (k)))]) hx hb dX4_fill_69 hl (by decide) rfl (fun ls hl => ?_)
                refine x_iinc (k := 1) (lv' := [(7, .int (nI (i + 1))), (6, .int (((fiA (lgO b) S.2.1 (S.1 b) from_ step i).2) + step)), (5, .ref ((bk_ ad b) 0)), (0, .ref (ad 0)), (1, .int (nI (b))), (2, .int (from_)), (3, .int (step)), (4, .int (nI (k)))]) hx hb dX4_fill_71 hl rfl (by decide) rfl (fun ls hl => ?_)
                refine lv_goto (tgt := 49) hx hb dX4_fill_74 (by decide) ?_
                exact ih (i + 1) (by omega) (by omega) H locs hW hS ls (lv_sub hl [0, 1, 2, 3, 4, 5, 6, 7] rfl)
              | some j =>
                refine lv_aload hx hb dX4_fill_56 (lv_at hl 2 rfl) ?_
                refine lv_iload hx hb dX4_fill_58 (lv_at hl 1 rfl) ?_
                refine lv_iconst (v := nI 0) hx hb dX4_fill_60 (by decide) ?_
                refine k2_V hx hb hml hown hG cs_X4_79 (c_store_at l D cI (bk_ ad b) (lgO b) (bdO S b) (fiA (lgO b) S.2.1 (S.1 b) from_ step i).1 (N + i) ((fiA (lgO b) S.2.1 (S.1 b) from_ step i).2) (nI (0)) j hf (fiA_ND from_ step hN2.1 i) (bdO_le hI b) (by omega) (bk_Ap (by omega) hap)) (by decide) (pzV (hK.sub (tys' := [(cI, .int)]) [0] rfl) rfl (hW.bkU (b := b) (by omega)).1.rc (hW.bkU (b := b) (by omega))) rfl hl.1 rfl (Nat.le_of_ble_eq_true rfl) dX4_fill_61 ⟨Nat.zero_le _, Nat.zero_le _⟩ rfl hS (bk_Ao (by omega)) (fun H locs hB0 hz hk hS => ?_)
                rw [stq_bd] at hB0
                have hW := hW.book hap (b := b) (by omega) bk_A hk (M := N + i + 1) (by omega) hB0
                rw [upB_up] at hW
                have hW : Wc D cI cC ad (upB (clB S b (-1)) b (fiA (lgO b) S.2.1 (S.1 b) from_ step (i + 1)).1) (N + (i + 1)) H := hW
                refine lv_pop hx hb dX4_fill_64 rfl ?_
                refine lv_iload hx hb dX4_fill_65 (lv_at hl 1 rfl) ?_
                refine lv_iload_n hx hb dX4_fill_67 rfl (lv_at hl 6 rfl) ?_
                refine x_iadd (v := ((fiA (lgO b) S.2.1 (S.1 b) from_ step i).2) + step) hx hb dX4_fill_68 rfl ?_
                refine lv_istore (lv' := [(6, .int (((fiA (lgO b) S.2.1 (S.1 b) from_ step i).2) + step)), (7, .int (nI (i))), (5, .ref ((bk_ ad b) 0)), (0, .ref (ad 0)), (1, .int (nI (b))), (2, .int (from_)), (3, .int (step)), (4, .int (nI (k)))]) hx hb dX4_fill_69 hl (by decide) rfl (fun ls hl => ?_)
                refine x_iinc (k := 1) (lv' := [(7, .int (nI (i + 1))), (6, .int (((fiA (lgO b) S.2.1 (S.1 b) from_ step i).2) + step)), (5, .ref ((bk_ ad b) 0)), (0, .ref (ad 0)), (1, .int (nI (b))), (2, .int (from_)), (3, .int (step)), (4, .int (nI (k)))]) hx hb dX4_fill_71 hl rfl (by decide) rfl (fun ls hl => ?_)
                refine lv_goto (tgt := 49) hx hb dX4_fill_74 (by decide) ?_
                exact ih (i + 1) (by omega) (by omega) H locs hW hS ls (lv_sub hl [0, 1, 2, 3, 4, 5, 6, 7] rfl)
    · have e9 : sp_fill S (nI b) from_ step many = (2, 0, S) := by unfold sp_fill; rw [hbk, hbm]
      rw [e9] at hok
      exact absurd hok (by show ¬ (2 : Nat) = 0; decide)
  · skip
    exact absurd hok (by unfold sp_fill; rw [hbk]; simp)
theorem wrA_b (L : Bk) {i : Nat} (h : i ≤ 200) : (wrA L i).length ≤ 4999 ∧ (i < 200 → (wrA L i).length ≤ 4974) := by
  rcases Nat.eq_zero_or_pos i with e | e
  · subst e; exact ⟨Nat.le_of_ble_eq_true rfl, fun _ => Nat.le_of_ble_eq_true rfl⟩
  · have := wrA_len0 L i e
    omega
set_option maxHeartbeats 4000000 in
set_option maxRecDepth 100000 in
theorem ok_write (l : Launch) (D : va_G) (cI cC : ClassId) (ad : Nat → Nat) (S : St) (N : Nat) (x : Int32) (hI : Inv S) (hN : N + 2000 < 2 ^ 31) (hap : Ap ad 36) (hok : (sp_write S x).1 = 0) : Met l yX4_write (ws_ yX4_write cX4_write 4 (some .int)) (rmN 6) (va_Pc [.ref (ad 0), .int x] (pz D [(cI, .int), (cC, .char)] (fun H => Wc D cI cC ad S N H))) (Wq (some (.int (sp_write S x).2.1)) (fun H => Wc D cI cC ad (sp_write S x).2.2 (N + 2000) H) (Ao ad 36)) 0 0 (Ao ad 36) := by
  have hbd2 : S.2.1 ≤ 40 := hI.2.2.2.1
  have hCC : ∀ cu, cu < 3 → ∀ y, S.2.2.1 cu = some y → y.1 < 4 := fun cu hcu y hy => by have h := hI.2.2.2.2.1 cu hcu; rw [hy] at h; exact h.1
  rcases bkn_cases 4 (by decide) x with ⟨b, hb4, rfl, hbk⟩ | ⟨hbk, hno⟩
  · skip
    have hN2 := hI.1 b hb4
    have e9 : sp_write S (nI (b)) = (0, nI (wrL (S.1 b)).length, (S.1, S.2.1, S.2.2.1, wrL (S.1 b))) := by simp [sp_write, hbk]
    rw [e9]
    refine m_start (by decide) (Nat.le_of_ble_eq_true rfl) ?_
    intro p e s m below meth c hx hb hr hG hown hlocks hml hB ls hl
    have hl : lv_has ls 4 [(0, .ref (ad 0)), (1, .int (nI (b)))] := hl
    obtain ⟨hW, hK⟩ := hB
    have hS : va_S (Ao ad 36) s.heap s.heap [] := va_S.rf
    refine lv_aload_n hx hb dX4_write_0 rfl (lv_at hl 0 rfl) ?_
    refine lv_iload_n hx hb dX4_write_1 rfl (lv_at hl 1 rfl) ?_
    refine k1_V hx hb hml hown hG cs_X4_113 (k_bookOfNumber l D cI cC ad S N b (by omega)) (by decide) (pzV hK rfl hW.rc hW) rfl hl.1 rfl (Nat.le_of_ble_eq_true rfl) dX4_write_2 ⟨Nat.zero_le _, Nat.zero_le _⟩ rfl ?_
    refine lv_astore_n (lv' := [(2, .ref ((bk_ ad b) 0)), (0, .ref (ad 0)), (1, .int (nI (b)))]) hx hb dX4_write_5 rfl hl (by decide) rfl (fun ls hl => ?_)
    refine lv_aload_n hx hb dX4_write_6 rfl (lv_at hl 1 rfl) ?_
    refine gf_X4_46 hx hb hG hown hK hW.x 0 rfl rfl dX4_write_7 ?_
    refine k2_V hx hb hml hown hG cs_X4_196 (c_startAnew l D cC (ou_ ad) S.2.2.2 (ou_Ap hap)) (by decide) (pzV (hK.sub (tys' := [(cC, .char)]) [1] rfl) rfl hW.ou.rc hW.ou) rfl hl.1 rfl (Nat.le_of_ble_eq_true rfl) dX4_write_10 ⟨Nat.zero_le _, Nat.zero_le _⟩ rfl hS ou_Ao (fun H locs hB0 hz hk hS => ?_)
    have hW : Wc D cI cC ad (wS S []) N H := hW.out hap hk hB0
    refine lv_aload_n hx hb dX4_write_13 rfl (lv_at hl 1 rfl) ?_
    refine gf_X4_46 hx hb hG hown hK hW.x 0 rfl rfl dX4_write_14 ?_
    refine lv_bipush (v := nI 123) hx hb dX4_write_17 (by decide) ?_
    refine k2_V hx hb hml hown hG cs_X4_199 (c_append l D cC (ou_ ad) [] 123 (by decide) (by show ([] : List Int32).length < 5000; (try simp only [List.length_append, List.length_cons, List.length_nil]); omega) (ou_Ap hap)) (by decide) (pzV (hK.sub (tys' := [(cC, .char)]) [1] rfl) rfl hW.ou.rc hW.ou) rfl hl.1 rfl (Nat.le_of_ble_eq_true rfl) dX4_write_19 ⟨Nat.zero_le _, Nat.zero_le _⟩ rfl hS ou_Ao (fun H locs hB0 hz hk hS => ?_)
    have hW : Wc D cI cC ad (wS S ([] ++ [nI 123])) N H := hW.out hap hk hB0
    refine lv_iconst (v := nI 0) hx hb dX4_write_22 (by decide) ?_
    refine lv_istore_n (lv' := [(3, .int (nI (0))), (2, .ref ((bk_ ad b) 0)), (0, .ref (ad 0)), (1, .int (nI (b)))]) hx hb dX4_write_23 rfl hl (by decide) rfl (fun ls hl => ?_)
    suffices KK : ∀ (n i : Nat), (S.1 b).length < i + n → i ≤ (S.1 b).length → ∀ (H : Heap) (locs : List Loc), Wc D cI cC ad (wS S (wrA (S.1 b) i)) N H → va_S (Ao ad 36) s.heap H locs → ∀ ls : Array Slot, lv_has ls 4 [(3, .int (nI (i))), (2, .ref ((bk_ ad b) 0)), (0, .ref (ad 0)), (1, .int (nI (b)))] → W p l e (rmN 6) s m [.ref (ad 0), .int (nI (b))].toArray below meth c H locs 0 0 (MQ below (Wq (some (.int (nI (wrL (S.1 b)).length))) (fun H => Wc D cI cC ad (S.1, S.2.1, S.2.2.1, wrL (S.1 b)) (N + 2000) H) (Ao ad 36)) [.ref (ad 0), .int (nI (b))].toArray s 0 0 (Ao ad 36)) (F0 m 24 ls []) from KK ((S.1 b).length + 1) 0 (by omega) (by omega) H locs hW hS ls (lv_sub hl [0, 1, 2, 3] rfl)
    clear hW hS hl
    intro n
    induction n with
    | zero => intro i h1 h2; omega
    | succ n ih =>
      intro i h1 h2 H locs hW hS ls hl
      have hw := wrA_b (S.1 b) (show i ≤ 200 by omega)
      have hdk := decI_len (kf (S.1 b) i)
      have hdv := decI_len (vf (S.1 b) i)
      have hcl : ((wS S (wrA (S.1 b) i)).1 b).length = (S.1 b).length := rfl
      refine lv_iload_n hx hb dX4_write_24 rfl (lv_at hl 0 rfl) ?_
      refine lv_aload_n hx hb dX4_write_25 rfl (lv_at hl 1 rfl) ?_
      refine gf_X4_57 hx hb hG hown hK (hW.bk (b := b) (by omega)).1.obj 0 rfl rfl dX4_write_26 ?_
      refine x_cmp_ge (tgt := 93) hx hb dX4_write_29 (by decide) (by omega) (by omega) (fun c1 => ?_) (fun c1 => ?_)
      · have ei : i = (S.1 b).length := by omega
        refine lv_aload_n hx hb dX4_write_93 rfl (lv_at hl 2 rfl) ?_
        refine gf_X4_46 hx hb hG hown hK hW.x 0 rfl rfl dX4_write_94 ?_
        refine lv_bipush (v := nI 125) hx hb dX4_write_97 (by decide) ?_
        refine k2_V hx hb hml hown hG cs_X4_199 (c_append l D cC (ou_ ad) (wrA (S.1 b) i) 125 (by decide) (by show ((wrA (S.1 b) i) : List Int32).length < 5000; (try simp only [List.length_append, List.length_cons, List.length_nil]); omega) (ou_Ap hap)) (by decide) (pzV (hK.sub (tys' := [(cC, .char)]) [1] rfl) rfl hW.ou.rc hW.ou) rfl hl.1 rfl (Nat.le_of_ble_eq_true rfl) dX4_write_99 ⟨Nat.zero_le _, Nat.zero_le _⟩ rfl hS ou_Ao (fun H locs hB0 hz hk hS => ?_)
        have hW : Wc D cI cC ad (wS S ((wrA (S.1 b) i) ++ [nI 125])) N H := hW.out hap hk hB0
        refine lv_aload_n hx hb dX4_write_102 rfl (lv_at hl 2 rfl) ?_
        refine gf_X4_46 hx hb hG hown hK hW.x 0 rfl rfl dX4_write_103 ?_
        refine gf_X4_206 hx hb hG hown hK hW.ou.obj 0 rfl rfl dX4_write_106 ?_
        rw [ei] at hW
        exact w_i (PB := (fun H => Wc D cI cC ad (S.1, S.2.1, S.2.2.1, wrL (S.1 b)) (N + 2000) H)) (by rw [ei]; rfl) (hW.mono (by omega)) hS hx hb hr hlocks dX4_write_109
      · rcases Nat.eq_zero_or_pos i with e0 | e0
        · skip
          refine lv_iload_n hx hb dX4_write_32 rfl (lv_at hl 0 rfl) ?_
          refine lv_if_le (tgt := 54) hx hb dX4_write_33 (by decide) (fun zc1 => ?_) (fun zc1 => False.elim (by exact absurd (show nI i ≤ 0 from by rw [e0]; decide) zc1))
          refine lv_aload_n hx hb dX4_write_54 rfl (lv_at hl 2 rfl) ?_
          refine gf_X4_46 hx hb hG hown hK hW.x 0 rfl rfl dX4_write_55 ?_
          refine lv_aload_n hx hb dX4_write_58 rfl (lv_at hl 1 rfl) ?_
          refine lv_iload_n hx hb dX4_write_59 rfl (lv_at hl 0 rfl) ?_
          refine k1_V hx hb hml hown hG cs_X4_132 (c_keyOn l D cI (bk_ ad b) (lgO b) (bdO S b) (S.1 b) i (by omega)) (by decide) (pzV (hK.sub (tys' := [(cI, .int)]) [0] rfl) rfl (hW.bk (b := b) (by omega)).1.rc (hW.bk (b := b) (by omega)).1) rfl hl.1 rfl (Nat.le_of_ble_eq_true rfl) dX4_write_60 ⟨Nat.zero_le _, Nat.zero_le _⟩ rfl ?_
          refine k2_V hx hb hml hown hG cs_X4_203 (c_appendNumber l D cC (ou_ ad) (wrA (S.1 b) i) (kf (S.1 b) i) (by show ((wrA (S.1 b) i) : List Int32).length + 11 ≤ 5000; (try simp only [List.length_append, List.length_cons, List.length_nil]); omega) (ou_Ap hap)) (by decide) (pzV (hK.sub (tys' := [(cC, .char)]) [1] rfl) rfl hW.ou.rc hW.ou) rfl hl.1 rfl (Nat.le_of_ble_eq_true rfl) dX4_write_63 ⟨Nat.zero_le _, Nat.zero_le _⟩ rfl hS ou_Ao (fun H locs hB0 hz hk hS => ?_)
          have hW : Wc D cI cC ad (wS S ((wrA (S.1 b) i) ++ decI (kf (S.1 b) i))) N H := hW.out hap hk hB0
          refine lv_aload_n hx hb dX4_write_66 rfl (lv_at hl 2 rfl) ?_
          refine gf_X4_46 hx hb hG hown hK hW.x 0 rfl rfl dX4_write_67 ?_
          refine lv_bipush (v := nI 61) hx hb dX4_write_70 (by decide) ?_
          refine k2_V hx hb hml hown hG cs_X4_199 (c_append l D cC (ou_ ad) ((wrA (S.1 b) i) ++ decI (kf (S.1 b) i)) 61 (by decide) (by show (((wrA (S.1 b) i) ++ decI (kf (S.1 b) i)) : List Int32).length < 5000; (try simp only [List.length_append, List.length_cons, List.length_nil]); omega) (ou_Ap hap)) (by decide) (pzV (hK.sub (tys' := [(cC, .char)]) [1] rfl) rfl hW.ou.rc hW.ou) rfl hl.1 rfl (Nat.le_of_ble_eq_true rfl) dX4_write_72 ⟨Nat.zero_le _, Nat.zero_le _⟩ rfl hS ou_Ao (fun H locs hB0 hz hk hS => ?_)
          have hW : Wc D cI cC ad (wS S (((wrA (S.1 b) i) ++ decI (kf (S.1 b) i)) ++ [nI 61])) N H := hW.out hap hk hB0
          refine lv_aload_n hx hb dX4_write_75 rfl (lv_at hl 2 rfl) ?_
          refine gf_X4_46 hx hb hG hown hK hW.x 0 rfl rfl dX4_write_76 ?_
          refine lv_aload_n hx hb dX4_write_79 rfl (lv_at hl 1 rfl) ?_
          refine lv_iload_n hx hb dX4_write_80 rfl (lv_at hl 0 rfl) ?_
          refine k1_V hx hb hml hown hG cs_X4_93 (c_valueOn l D cI (bk_ ad b) (lgO b) (bdO S b) (S.1 b) i (by omega)) (by decide) (pzV (hK.sub (tys' := [(cI, .int)]) [0] rfl) rfl (hW.bk (b := b) (by omega)).1.rc (hW.bk (b := b) (by omega)).1) rfl hl.1 rfl (Nat.le_of_ble_eq_true rfl) dX4_write_81 ⟨Nat.zero_le _, Nat.zero_le _⟩ rfl ?_
          refine k2_V hx hb hml hown hG cs_X4_203 (c_appendNumber l D cC (ou_ ad) (((wrA (S.1 b) i) ++ decI (kf (S.1 b) i)) ++ [nI 61]) (vf (S.1 b) i) (by show ((((wrA (S.1 b) i) ++ decI (kf (S.1 b) i)) ++ [nI 61]) : List Int32).length + 11 ≤ 5000; (try simp only [List.length_append, List.length_cons, List.length_nil]); omega) (ou_Ap hap)) (by decide) (pzV (hK.sub (tys' := [(cC, .char)]) [1] rfl) rfl hW.ou.rc hW.ou) rfl hl.1 rfl (Nat.le_of_ble_eq_true rfl) dX4_write_84 ⟨Nat.zero_le _, Nat.zero_le _⟩ rfl hS ou_Ao (fun H locs hB0 hz hk hS => ?_)
          have hW : Wc D cI cC ad (wS S ((((wrA (S.1 b) i) ++ decI (kf (S.1 b) i)) ++ [nI 61]) ++ decI (vf (S.1 b) i))) N H := hW.out hap hk hB0
          refine x_iinc (k := 0) (lv' := [(3, .int (nI (i + 1))), (2, .ref ((bk_ ad b) 0)), (0, .ref (ad 0)), (1, .int (nI (b)))]) hx hb dX4_write_87 hl rfl (by decide) rfl (fun ls hl => ?_)
          refine lv_goto (tgt := 24) hx hb dX4_write_90 (by decide) ?_
          have e2 : wrA (S.1 b) (i + 1) = ((((wrA (S.1 b) i) ++ decI (kf (S.1 b) i)) ++ [nI 61]) ++ decI (vf (S.1 b) i)) := by
            rw [wrA, if_pos e0]
            simp only [List.append_assoc, List.cons_append, List.nil_append]
          exact ih (i + 1) (by omega) (by omega) H locs (by rw [e2]; exact hW) hS ls (lv_sub hl [0, 1, 2, 3] rfl)
        · skip
          refine lv_iload_n hx hb dX4_write_32 rfl (lv_at hl 0 rfl) ?_
          refine lv_if_le (tgt := 54) hx hb dX4_write_33 (by decide) (fun zc2 => False.elim (by exact nI_npos (by omega) e0 zc2)) (fun zc2 => ?_)
          refine lv_aload_n hx hb dX4_write_36 rfl (lv_at hl 2 rfl) ?_
          refine gf_X4_46 hx hb hG hown hK hW.x 0 rfl rfl dX4_write_37 ?_
          refine lv_bipush (v := nI 44) hx hb dX4_write_40 (by decide) ?_
          refine k2_V hx hb hml hown hG cs_X4_199 (c_append l D cC (ou_ ad) (wrA (S.1 b) i) 44 (by decide) (by show ((wrA (S.1 b) i) : List Int32).length < 5000; (try simp only [List.length_append, List.length_cons, List.length_nil]); omega) (ou_Ap hap)) (by decide) (pzV (hK.sub (tys' := [(cC, .char)]) [1] rfl) rfl hW.ou.rc hW.ou) rfl hl.1 rfl (Nat.le_of_ble_eq_true rfl) dX4_write_42 ⟨Nat.zero_le _, Nat.zero_le _⟩ rfl hS ou_Ao (fun H locs hB0 hz hk hS => ?_)
          have hW : Wc D cI cC ad (wS S ((wrA (S.1 b) i) ++ [nI 44])) N H := hW.out hap hk hB0
          refine lv_aload_n hx hb dX4_write_45 rfl (lv_at hl 2 rfl) ?_
          refine gf_X4_46 hx hb hG hown hK hW.x 0 rfl rfl dX4_write_46 ?_
          refine lv_bipush (v := nI 32) hx hb dX4_write_49 (by decide) ?_
          refine k2_V hx hb hml hown hG cs_X4_199 (c_append l D cC (ou_ ad) ((wrA (S.1 b) i) ++ [nI 44]) 32 (by decide) (by show (((wrA (S.1 b) i) ++ [nI 44]) : List Int32).length < 5000; (try simp only [List.length_append, List.length_cons, List.length_nil]); omega) (ou_Ap hap)) (by decide) (pzV (hK.sub (tys' := [(cC, .char)]) [1] rfl) rfl hW.ou.rc hW.ou) rfl hl.1 rfl (Nat.le_of_ble_eq_true rfl) dX4_write_51 ⟨Nat.zero_le _, Nat.zero_le _⟩ rfl hS ou_Ao (fun H locs hB0 hz hk hS => ?_)
          have hW : Wc D cI cC ad (wS S (((wrA (S.1 b) i) ++ [nI 44]) ++ [nI 32])) N H := hW.out hap hk hB0
          refine lv_aload_n hx hb dX4_write_54 rfl (lv_at hl 2 rfl) ?_
          refine gf_X4_46 hx hb hG hown hK hW.x 0 rfl rfl dX4_write_55 ?_
          refine lv_aload_n hx hb dX4_write_58 rfl (lv_at hl 1 rfl) ?_
          refine lv_iload_n hx hb dX4_write_59 rfl (lv_at hl 0 rfl) ?_
          refine k1_V hx hb hml hown hG cs_X4_132 (c_keyOn l D cI (bk_ ad b) (lgO b) (bdO S b) (S.1 b) i (by omega)) (by decide) (pzV (hK.sub (tys' := [(cI, .int)]) [0] rfl) rfl (hW.bk (b := b) (by omega)).1.rc (hW.bk (b := b) (by omega)).1) rfl hl.1 rfl (Nat.le_of_ble_eq_true rfl) dX4_write_60 ⟨Nat.zero_le _, Nat.zero_le _⟩ rfl ?_
          refine k2_V hx hb hml hown hG cs_X4_203 (c_appendNumber l D cC (ou_ ad) (((wrA (S.1 b) i) ++ [nI 44]) ++ [nI 32]) (kf (S.1 b) i) (by show ((((wrA (S.1 b) i) ++ [nI 44]) ++ [nI 32]) : List Int32).length + 11 ≤ 5000; (try simp only [List.length_append, List.length_cons, List.length_nil]); omega) (ou_Ap hap)) (by decide) (pzV (hK.sub (tys' := [(cC, .char)]) [1] rfl) rfl hW.ou.rc hW.ou) rfl hl.1 rfl (Nat.le_of_ble_eq_true rfl) dX4_write_63 ⟨Nat.zero_le _, Nat.zero_le _⟩ rfl hS ou_Ao (fun H locs hB0 hz hk hS => ?_)
          have hW : Wc D cI cC ad (wS S ((((wrA (S.1 b) i) ++ [nI 44]) ++ [nI 32]) ++ decI (kf (S.1 b) i))) N H := hW.out hap hk hB0
          refine lv_aload_n hx hb dX4_write_66 rfl (lv_at hl 2 rfl) ?_
          refine gf_X4_46 hx hb hG hown hK hW.x 0 rfl rfl dX4_write_67 ?_
          refine lv_bipush (v := nI 61) hx hb dX4_write_70 (by decide) ?_
          refine k2_V hx hb hml hown hG cs_X4_199 (c_append l D cC (ou_ ad) ((((wrA (S.1 b) i) ++ [nI 44]) ++ [nI 32]) ++ decI (kf (S.1 b) i)) 61 (by decide) (by show (((((wrA (S.1 b) i) ++ [nI 44]) ++ [nI 32]) ++ decI (kf (S.1 b) i)) : List Int32).length < 5000; (try simp only [List.length_append, List.length_cons, List.length_nil]); omega) (ou_Ap hap)) (by decide) (pzV (hK.sub (tys' := [(cC, .char)]) [1] rfl) rfl hW.ou.rc hW.ou) rfl hl.1 rfl (Nat.le_of_ble_eq_true rfl) dX4_write_72 ⟨Nat.zero_le _, Nat.zero_le _⟩ rfl hS ou_Ao (fun H locs hB0 hz hk hS => ?_)
          have hW : Wc D cI cC ad (wS S (((((wrA (S.1 b) i) ++ [nI 44]) ++ [nI 32]) ++ decI (kf (S.1 b) i)) ++ [nI 61])) N H := hW.out hap hk hB0
          refine lv_aload_n hx hb dX4_write_75 rfl (lv_at hl 2 rfl) ?_
          refine gf_X4_46 hx hb hG hown hK hW.x 0 rfl rfl dX4_write_76 ?_
          refine lv_aload_n hx hb dX4_write_79 rfl (lv_at hl 1 rfl) ?_
          refine lv_iload_n hx hb dX4_write_80 rfl (lv_at hl 0 rfl) ?_
          refine k1_V hx hb hml hown hG cs_X4_93 (c_valueOn l D cI (bk_ ad b) (lgO b) (bdO S b) (S.1 b) i (by omega)) (by decide) (pzV (hK.sub (tys' := [(cI, .int)]) [0] rfl) rfl (hW.bk (b := b) (by omega)).1.rc (hW.bk (b := b) (by omega)).1) rfl hl.1 rfl (Nat.le_of_ble_eq_true rfl) dX4_write_81 ⟨Nat.zero_le _, Nat.zero_le _⟩ rfl ?_
          refine k2_V hx hb hml hown hG cs_X4_203 (c_appendNumber l D cC (ou_ ad) (((((wrA (S.1 b) i) ++ [nI 44]) ++ [nI 32]) ++ decI (kf (S.1 b) i)) ++ [nI 61]) (vf (S.1 b) i) (by show ((((((wrA (S.1 b) i) ++ [nI 44]) ++ [nI 32]) ++ decI (kf (S.1 b) i)) ++ [nI 61]) : List Int32).length + 11 ≤ 5000; (try simp only [List.length_append, List.length_cons, List.length_nil]); omega) (ou_Ap hap)) (by decide) (pzV (hK.sub (tys' := [(cC, .char)]) [1] rfl) rfl hW.ou.rc hW.ou) rfl hl.1 rfl (Nat.le_of_ble_eq_true rfl) dX4_write_84 ⟨Nat.zero_le _, Nat.zero_le _⟩ rfl hS ou_Ao (fun H locs hB0 hz hk hS => ?_)
          have hW : Wc D cI cC ad (wS S ((((((wrA (S.1 b) i) ++ [nI 44]) ++ [nI 32]) ++ decI (kf (S.1 b) i)) ++ [nI 61]) ++ decI (vf (S.1 b) i))) N H := hW.out hap hk hB0
          refine x_iinc (k := 0) (lv' := [(3, .int (nI (i + 1))), (2, .ref ((bk_ ad b) 0)), (0, .ref (ad 0)), (1, .int (nI (b)))]) hx hb dX4_write_87 hl rfl (by decide) rfl (fun ls hl => ?_)
          refine lv_goto (tgt := 24) hx hb dX4_write_90 (by decide) ?_
          have e2 : wrA (S.1 b) (i + 1) = ((((((wrA (S.1 b) i) ++ [nI 44]) ++ [nI 32]) ++ decI (kf (S.1 b) i)) ++ [nI 61]) ++ decI (vf (S.1 b) i)) := by
            rw [wrA, if_neg (by omega)]
            simp only [List.append_assoc, List.cons_append, List.nil_append]
          exact ih (i + 1) (by omega) (by omega) H locs (by rw [e2]; exact hW) hS ls (lv_sub hl [0, 1, 2, 3] rfl)
  · skip
    exact absurd hok (by simp [sp_write, hbk, hbk])
theorem va_P6 {D : va_G} {cl : List vw_C} {e0 e1 e2 e3 e4 e5 : Nat × va_E} {H : Heap} (h : va_P D cl [e0, e1, e2] H) (h2 : va_P D cl [e3, e4, e5] H) : va_P D cl [e0, e1, e2, e3, e4, e5] H := fun k q hk => by
  match k, hk with
  | 0, hk => exact h 0 q hk
  | 1, hk => exact h 1 q hk
  | 2, hk => exact h 2 q hk
  | 3, hk => exact h2 0 q hk
  | 4, hk => exact h2 1 q hk
  | 5, hk => exact h2 2 q hk
  | k + 6, hk => simp at hk
set_option maxHeartbeats 4000000 in
set_option maxRecDepth 100000 in
theorem ok_rebind (l : Launch) (D : va_G) (cI cC : ClassId) (ad : Nat → Nat) (S : St) (N : Nat) (x : Int32) (hI : Inv S) (hN : N + 2000 < 2 ^ 31) (hap : Ap ad 36) (hok : (sp_rebind S x).1 = 0) : Met l yX4_rebind (ws_ yX4_rebind cX4_rebind 3 (some .int)) (rmN 6) (va_Pc [.ref (ad 0), .int x] (pz D [(cI, .int), (cC, .char)] (fun H => Wc D cI cC ad S N H))) (Wq (some (.int (sp_rebind S x).2.1)) (fun H => Wc D cI cC ad (sp_rebind S x).2.2 (N + 2000) H) (Ao ad 36)) 0 0 (Ao ad 36) := by
  have hbd2 : S.2.1 ≤ 40 := hI.2.2.2.1
  have hCC : ∀ cu, cu < 3 → ∀ y, S.2.2.1 cu = some y → y.1 < 4 := fun cu hcu y hy => by have h := hI.2.2.2.2.1 cu hcu; rw [hy] at h; exact h.1
  by_cases hx0 : 1 ≤ x ∧ x ≤ 40
  · skip
    obtain ⟨n, hn, ex⟩ : ∃ n : Nat, n < 41 ∧ x = nI n := by
      have h1 := hx0.1
      have h2 := hx0.2
      rw [i_le] at h1 h2
      have e1 : (1 : Int32).toInt = 1 := by decide
      have e2 : (40 : Int32).toInt = 40 := by decide
      refine rch_of (by decide) ?_
      unfold rch
      rw [decide_eq_true_eq, i_le, i_lt, nI_toInt (by decide)]
      have e0 : (0 : Int32).toInt = 0 := by decide
      omega
    subst ex
    have hn1 : 1 ≤ n := by
      have h1 := hx0.1
      rw [i_le, nI_toInt (by omega)] at h1
      have e1 : (1 : Int32).toInt = 1 := by decide
      omega
    have e9 : sp_rebind S (nI (n)) = (0, nI (S.1 2).length, (va_up S.1 2 [], n, clo S.2.2.1 2 (-1), S.2.2.2)) := by unfold sp_rebind; rw [if_pos hx0, nI_clamp (by omega)]
    rw [e9]
    refine m_start (by decide) (Nat.le_of_ble_eq_true rfl) ?_
    intro p e s m below meth c hx hb hr hG hown hlocks hml hB ls hl
    have hl : lv_has ls 3 [(0, .ref (ad 0)), (1, .int (nI (n)))] := hl
    obtain ⟨hW, hK⟩ := hB
    have hS : va_S (Ao ad 36) s.heap s.heap [] := va_S.rf
    have hS6 : va_S (Ao (bk_ ad 2) 6) s.heap s.heap [] := va_S.rf
    refine lv_iload_n hx hb dX4_rebind_0 rfl (lv_at hl 1 rfl) ?_
    refine lv_iconst (v := nI 1) hx hb dX4_rebind_1 (by decide) ?_
    refine x_cmp_lt (tgt := 11) hx hb dX4_rebind_2 (by decide) (by omega) (by omega) (fun zc1 => False.elim (by first | omega | contradiction | exact absurd zc1 (m1_ne _ (by omega)) | exact absurd zc1 (by decide) | exact absurd (Eq.symm zc1) (m1_ne _ (by omega)) | (simp_all; done))) (fun zc1 => ?_)
    refine lv_iload_n hx hb dX4_rebind_5 rfl (lv_at hl 1 rfl) ?_
    refine lv_bipush (v := nI 40) hx hb dX4_rebind_6 (by decide) ?_
    refine x_cmp_le (tgt := 21) hx hb dX4_rebind_8 (by decide) (by omega) (by omega) (fun zc2 => ?_) (fun zc2 => False.elim (by first | omega | contradiction | exact absurd zc2 (m1_ne _ (by omega)) | exact absurd zc2 (by decide) | exact absurd (Eq.symm zc2) (m1_ne _ (by omega)) | (simp_all; done)))
    refine lv_aload_n hx hb dX4_rebind_21 rfl (lv_at hl 0 rfl) ?_
    refine gf_X4_21 hx hb hG hown hK hW.x 0 rfl rfl dX4_rebind_22 ?_
    refine gf_X4_57 hx hb hG hown hK (hW.bk (b := 2) (by omega)).1.obj 0 rfl rfl dX4_rebind_25 ?_
    refine lv_istore_n (lv' := [(2, .int (nI ((S.1 2).length))), (0, .ref (ad 0)), (1, .int (nI (n)))]) hx hb dX4_rebind_28 rfl hl (by decide) rfl (fun ls hl => ?_)
    refine lv_aload_n hx hb dX4_rebind_29 rfl (lv_at hl 1 rfl) ?_
    refine gf_X4_21 hx hb hG hown hK hW.x 0 rfl rfl dX4_rebind_30 ?_
    refine k2_V hx hb hml hown hG cs_X4_61 (c_empty l D cI (bk_ ad 2) (lgO 2) (bdO S 2) (S.1 2) N (bk_Ap (by omega) hap)) (by decide) (pzV (hK.sub (tys' := [(cI, .int)]) [0] rfl) rfl (hW.bk (b := 2) (by omega)).1.rc (hW.bk (b := 2) (by omega))) rfl hl.1 rfl (Nat.le_of_ble_eq_true rfl) dX4_rebind_33 ⟨Nat.zero_le _, Nat.zero_le _⟩ rfl hS6 (fun q h => h) (fun H locs hB0 hz hk hS6 => ?_)
    have hx2 : va_P D vwCl (xW ad) H := hW.x.kept (fun k q hq => by
      match k, hq with
      | 0, hq => cases hq; exact hW.same hap (lo := 13) (hi := 19) (by decide) bk_A hk (i := 0) (by decide) (by decide)
      | k + 1, hq => simp at hq)
    obtain ⟨⟨kk, vv, hP1, hRp⟩, R, now, ⟨k2, v2, hP2, hRp2⟩, hT⟩ := hB0
    have hP := va_P6 hP1 hP2
    have hD : va_D (Ao (bk_ ad 2) 6) _ := (bk_Ap (b := 2) (by omega) hap).D6 (e0 := .inr (1, [.ref (bk_ ad 2 1), .ref (bk_ ad 2 2), .ref (bk_ ad 2 3), .int (bI (lgO 2)), .int (nI (bdO S 2)), .int (nI 0)])) (e1 := .inl (cI, (200, .inl kk))) (e2 := .inl (cI, (200, .inl vv))) (e3 := .inr (0, [.ref (rec_ (bk_ ad 2) 1), .ref (rec_ (bk_ ad 2) 2), .int (nI R.length), .int (nI now)])) (e4 := .inl (cI, (200, .inl k2))) (e5 := .inl (cI, (200, .inl v2)))
    refine lv_aload_n hx hb dX4_rebind_36 rfl (lv_at hl 1 rfl) ?_
    refine gf_X4_21 hx hb hG hown hK hx2 0 rfl rfl dX4_rebind_37 ?_
    refine lv_iload_n hx hb dX4_rebind_40 rfl (lv_at hl 2 rfl) ?_
    refine pf_X4_64 hx hb hG hown hK hP hD hS6 0 rfl (v := .int (nI n)) rfl rfl (Nat.le_of_ble_eq_true rfl) dX4_rebind_41 (fun H locs hP hD hS6 => ?_)
    have hB9 : BookAt D cI (bk_ ad 2) true n [] N H := ⟨⟨kk, vv, hP.sub [0, 1, 2] rfl, hRp⟩, R, now, ⟨k2, v2, hP.sub [3, 4, 5] rfl, hRp2⟩, hT⟩
    have hW9 := hW.book_ hap (b := 2) (by decide) bk_A hS6.2.1 (L := []) (bd := n) (Nat.le_refl N) rfl hB9
    have hS : va_S (Ao ad 36) s.heap H locs := ⟨hS6.1, fun q a z => hS6.2.1 q a (fun y => z (bk_Ao (by decide) q y)), fun l9 hl9 => bk_Ao (by decide) _ (hS6.2.2 l9 hl9)⟩
    have hW := hW9
    refine lv_aload_n hx hb dX4_rebind_44 rfl (lv_at hl 1 rfl) ?_
    refine lv_iconst (v := nI 2) hx hb dX4_rebind_45 (by decide) ?_
    refine lv_iconst (v := (-1)) hx hb dX4_rebind_46 (by decide) ?_
    refine k2_V hx hb hml hown hG cs_X4_67 (k_closeCursors l D cI cC ad (va_up S.1 2 [], n, S.2.2) N 2 (-1) (by omega) hCC hap) (by decide) (pzV hK rfl hW.rc hW) rfl hl.1 rfl (Nat.le_of_ble_eq_true rfl) dX4_rebind_47 ⟨Nat.zero_le _, Nat.zero_le _⟩ rfl hS (fun q h => h) (fun H locs hW hz hk hS => ?_)
    refine lv_iload_n hx hb dX4_rebind_50 rfl (lv_at hl 0 rfl) ?_
    exact w_i (PB := (fun H => Wc D cI cC ad (va_up S.1 2 [], n, clo S.2.2.1 2 (-1), S.2.2.2) (N + 2000) H)) rfl (hW.mono (by omega)) hS hx hb hr hlocks dX4_rebind_51
  · skip
    exact absurd hok (by unfold sp_rebind; rw [if_neg hx0]; show ¬ (1 : Nat) = 0; decide)
