set_option maxHeartbeats 4000000 in
set_option maxRecDepth 100000 in
/-- the law, from its entry -/
theorem whole_start {p : Program} {e : Env} {s : State} {m : MethodId} {below : List Frame} {meth : Method} {c : Code} (l : Launch) (hflags : l.flags = flags0) {b L : Nat} {xs : Nat → Int32} (hL : L ≤ 2560) (C0 : lw_At p s m meth c b L xs) : W p l e room_1 s m #[Value.ref b] below meth c s.heap [] 0 0 (lw_Z below #[Value.ref b] s) (entryFrame m ([Value.ref b] : List Value).toArray 10) := by
  obtain ⟨hx, hb0, hr, hml, hown, hts, hX, hbl, hlocks, hgv⟩ := id C0
  have hb : c.code = cL_law := hb0
  have hown : s.vm.findClass RL = some m.cls := hown
  have hst : l.stackTraces = false := by
    unfold Launch.stackTraces
    rw [hflags]
    decide +kernel
  have hG : ∀ w ∈ GW, w.before #[Value.ref b] s = true := fun w hw => hts w (GW_tbl hw)
  have hE : Ex s := fun w hw => va_any (exB_onT w hw) (hts w (exB_tb w hw))
  have hNn : Nn s := fun w hw => va_Nw.of (nW_onT w hw) (hts w (nW_tbl w hw))
  have hX2 : Nx s := at_Nx hgv
  have hZ : Zs s.heap.size s s.heap := at_Zs hgv hts
  obtain ⟨ta, hT⟩ := at_Tx hgv hts
  obtain ⟨c0, i0, hK0⟩ := u_known (C := RX0) (T := TX0) (N := 4) (n := 4) hG iw0 (hG _ io_X0)
  obtain ⟨c1, i1, hK1⟩ := u_known (C := RX1) (T := TX1) (N := 6) (n := 6) hG iw1 (hG _ io_X1)
  obtain ⟨c2, i2, hK2⟩ := u_known (C := RX2) (T := TX2) (N := 4) (n := 4) hG iw2 (hG _ io_X2)
  obtain ⟨c3, i3, hK3⟩ := u_known (C := RX3) (T := TX3) (N := 2) (n := 2) hG iw3 (hG _ io_X3)
  obtain ⟨c4, i4, hK4⟩ := u_known (C := RX4) (T := TX4) (N := 9) (n := 9) hG iw4 (hG _ io_X4)
  obtain ⟨c5, i5, hK5⟩ := u_known (C := RX5) (T := TX5) (N := 11) (n := 11) hG iw5 (hG _ io_X5)
  obtain ⟨D, hKc⟩ : ∃ D : va_G, ∀ (k : Nat) (q : vw_C), vwCl[k]? = some q → u_Kn s q.1 q.2.1 q.2.2 (D.1 k) (D.2 k) := by
    refine ⟨(fun k => if k = 0 then c0 else if k = 1 then c1 else if k = 2 then c2 else if k = 3 then c3 else if k = 4 then c4 else c5, fun k => if k = 0 then i0 else if k = 1 then i1 else if k = 2 then i2 else if k = 3 then i3 else if k = 4 then i4 else i5), ?_⟩
    intro k q hq
    match k, hq with
    | 0, hq => cases hq; exact hK0
    | 1, hq => cases hq; exact hK1
    | 2, hq => cases hq; exact hK2
    | 3, hq => cases hq; exact hK3
    | 4, hq => cases hq; exact hK4
    | 5, hq => cases hq; exact hK5
    | k + 6, hq => simp [vwCl] at hq
  obtain ⟨cI, hcI⟩ := K_arr (hG _ ac_int) (fun _ h => h)
  obtain ⟨cC, hcC⟩ := K_arr (hG _ ac_char) (fun _ h => h)
  obtain ⟨cZ, hcZ⟩ := K_arr (hG _ ac_boolean) (fun _ h => h)
  obtain ⟨cL, hcL⟩ := K_arr (hG _ ac_long) (fun _ h => h)
  obtain ⟨cD, hcD⟩ := K_arr (hG _ ac_double) (fun _ h => h)
  have hK : va_K D vwCl [(cI, .int), (cC, .char), (cZ, .boolean), (cL, .long), (cD, .double)] s := by
    refine ⟨hKc, ?_⟩
    intro k q hq
    match k, hq with
    | 0, hq => cases hq; exact hcI
    | 1, hq => cases hq; exact hcC
    | 2, hq => cases hq; exact hcZ
    | 3, hq => cases hq; exact hcL
    | 4, hq => cases hq; exact hcD
    | k + 5, hq => simp at hq
  have hl := lv_entry ([.ref b]) (n := 10) (Nat.le_of_ble_eq_true rfl)
  rw [lg_entry_eq]
  generalize (lg_sl ([.ref b]) ++ List.replicate (10 - (lg_sl ([.ref b])).length) Slot.unset).toArray = ls at hl ⊢
  have hl : lv_has ls 10 [(0, .ref b)] := hl
  have hPe : ∀ H : Heap, va_P D vwCl [] H := fun H k q h => by simp at h
  have hDe : ∀ A : Nat → Prop, va_D A [] := fun A => ⟨fun i j p q h => by simp at h, fun k q h => by simp at h⟩
  have hS0 : va_S (fun q => s.heap.size ≤ q) s.heap s.heap [] := va_S.rf
  refine va_new (ci := 4) (fs := [.null, .null, .null, .null, .null, .null, .null, .null, .null]) (C := RX4) (T := TX4) (N := 9) hx hb hG iw4 tyX4 tyX4_ok hown (hG _ cl_L_8) (hG _ io_X4) (hG _ in_X4) hK (hPe _) (hDe _) hS0 (fun q h => h) rfl (fun j hj => by rcases (show j = 0 ∨ j = 1 ∨ j = 2 ∨ j = 3 ∨ j = 4 ∨ j = 5 ∨ j = 6 ∨ j = 7 ∨ j = 8 from by omega) with rfl | rfl | rfl | rfl | rfl | rfl | rfl | rfl | rfl <;> rfl) (Nat.le_of_ble_eq_true rfl) (Nat.le_of_ble_eq_true rfl) dL_law_0 (fun q4 H hP hD hS4 => ?_)
  have hP : va_P D vwCl [(q4, .inr (4, [.null, .null, .null, .null, .null, .null, .null, .null, .null]))] H := hP
  have hD : va_D (fun q => s.heap.size ≤ q) [(q4, .inr (4, [.null, .null, .null, .null, .null, .null, .null, .null, .null]))] := hD
  refine W.widen (k := 1) (n := 9) (by omega) (by omega) ?_
  refine lv_dup hx hb dL_law_3 rfl ?_
  refine k2_I hx hb hml hown hG ci_L_141 (new_X4 l D cI cC cZ q4 H.size) (by decide) (pziS (hK.sub (tys' := [(cI, .int), (cC, .char), (cZ, .boolean)]) [0, 1, 2] rfl) hNn rfl hP) rfl hl.1 rfl (Nat.le_of_ble_eq_true rfl) dL_law_4 ⟨Nat.le_of_ble_eq_true rfl, Nat.le_of_ble_eq_true rfl⟩ hS4 (va_free hD hS4 (fun q h => h) [0] rfl) (fun H1 locs hB0 hz hk hS => ?_)
  obtain ⟨ad, had0, hap, hza1, hW⟩ := hB0
  have hza : ∀ i, i < 36 → s.heap.size ≤ ad i := fun i hi => by
    rcases Nat.eq_zero_or_pos i with e9 | e9
    · subst e9; rw [had0]; exact hD.2 0 _ rfl
    · exact Nat.le_trans hS4.1 (hza1 i e9 hi)
  subst had0
  refine va_forget (fun q hq => hS.2.2 q hq) ?_
  have hS1 : va_S (fun q => s.heap.size ≤ q) s.heap H1 [] := ⟨hS.1, hS.2.1, fun z hz => nomatch hz⟩
  have hlt : ∀ i, i < 36 → ad i < H1.size := fun i hi => hW.lt hi
  refine W.widen (k := 36) (n := 9073) (Nat.le_of_ble_eq_true rfl) (Nat.le_of_ble_eq_true rfl) ?_
  refine lv_astore_n (lv' := [(1, .ref (ad 0)), (0, .ref b)]) hx hb dL_law_7 rfl hl (by decide) rfl (fun ls hl => ?_)
  have hSb : va_S (fun q => H1.size ≤ q) H1 H1 [] := va_S.rf
  refine va_new (ci := 5) (fs := [.null, .null, .null, .int 0, .int 0, .null, .null, .null, .null, .null, .int 0]) (C := RX5) (T := TX5) (N := 11) hx hb hG iw5 tyX5 tyX5_ok hown (hG _ cl_L_142) (hG _ io_X5) (hG _ in_X5) hK (hPe _) (hDe _) hSb (fun q h => h) rfl (fun j hj => by rcases (show j = 0 ∨ j = 1 ∨ j = 2 ∨ j = 3 ∨ j = 4 ∨ j = 5 ∨ j = 6 ∨ j = 7 ∨ j = 8 ∨ j = 9 ∨ j = 10 from by omega) with rfl | rfl | rfl | rfl | rfl | rfl | rfl | rfl | rfl | rfl | rfl <;> rfl) (Nat.le_of_ble_eq_true rfl) (Nat.le_of_ble_eq_true rfl) dL_law_8 (fun q5 H2 hP hD hS2 => ?_)
  have hP : va_P D vwCl [(q5, .inr (5, [.null, .null, .null, .int 0, .int 0, .null, .null, .null, .null, .null, .int 0]))] H2 := hP
  have hD : va_D (fun q => H1.size ≤ q) [(q5, .inr (5, [.null, .null, .null, .int 0, .int 0, .null, .null, .null, .null, .null, .int 0]))] := hD
  refine W.widen (k := 37) (n := 9084) (Nat.le_of_ble_eq_true rfl) (Nat.le_of_ble_eq_true rfl) ?_
  refine lv_dup hx hb dL_law_11 rfl ?_
  refine k2_I hx hb hml hown hG ci_L_144 (new_X5 l D cI cC cZ q5 H2.size) (by decide) (pziS (hK.sub (tys' := [(cI, .int), (cC, .char), (cZ, .boolean)]) [0, 1, 2] rfl) hNn rfl hP) rfl hl.1 rfl (Nat.le_of_ble_eq_true rfl) dL_law_12 ⟨Nat.le_of_ble_eq_true rfl, Nat.le_of_ble_eq_true rfl⟩ hS2 (va_free hD hS2 (fun q h => h) [0] rfl) (fun H3 locs hB0 hz3 hk3 hS3 => ?_)
  obtain ⟨d, hd0, hapd, hzd1, hM⟩ := hB0
  have hzd : ∀ i, i < 9 → H1.size ≤ d i := fun i hi => by
    rcases Nat.eq_zero_or_pos i with e9 | e9
    · subst e9; rw [hd0]; exact hD.2 0 _ rfl
    · exact Nat.le_trans hS2.1 (hzd1 i e9 hi)
  subst hd0
  have hW := hW.kept (fun i hi => hS3.2.1 _ (hlt i hi) (Nat.not_le.mpr (hlt i hi)))
  have hld : ∀ i, i < 9 → d i < H3.size := fun i hi => hM.lt hi
  refine va_forget (fun q hq => Nat.le_trans hS1.1 (hS3.2.2 q hq)) ?_
  have hSc := vS_trans hS1 hS3
  refine W.widen (k := 45) (n := 16708) (Nat.le_of_ble_eq_true rfl) (Nat.le_of_ble_eq_true rfl) ?_
  refine lv_astore_n (lv' := [(2, .ref (d 0)), (1, .ref (ad 0)), (0, .ref b)]) hx hb dL_law_15 rfl hl (by decide) rfl (fun ls hl => ?_)
  have h13 : H1.size ≤ H3.size := hS3.1
  refine lv_iconst (v := nI 1) hx hb dL_law_16 (by decide) ?_
  have hSd : va_S (fun q => H3.size ≤ q) H3 H3 [] := va_S.rf
  refine x_newJ hx hb hG hK (hPe _) (hDe _) hSd (fun q h => h) 3 rfl (by decide) (Nat.le_of_ble_eq_true rfl) (Nat.le_of_ble_eq_true rfl) dL_law_17 (fun qo H4 hPo hDo hS5 => ?_)
  have hPo : va_P D vwCl (ouW cL qo (fun _ => 0)) H4 := hPo
  have hzo : H3.size ≤ qo := hDo.2 0 _ rfl
  have hW := hW.kept (fun i hi => hS5.2.1 _ (Nat.lt_of_lt_of_le (hlt i hi) h13) (Nat.not_le.mpr (Nat.lt_of_lt_of_le (hlt i hi) h13)))
  have hM := hM.kept (fun i hi => hS5.2.1 _ (hld i hi) (Nat.not_le.mpr (hld i hi)))
  have hSe := vS_trans hSc hS5
  have h34 : H3.size ≤ H4.size := hS5.1
  have hlo : qo < H4.size := va_lt hPo (k := 0) rfl
  refine W.widen (k := 46) (n := 16709) (Nat.le_of_ble_eq_true rfl) (Nat.le_of_ble_eq_true rfl) ?_
  refine lv_astore_n (lv' := [(3, .ref qo), (2, .ref (d 0)), (1, .ref (ad 0)), (0, .ref b)]) hx hb dL_law_19 rfl hl (by decide) rfl (fun ls hl => ?_)
  refine lv_iconst (v := nI 1) hx hb dL_law_20 (by decide) ?_
  have hSf : va_S (fun q => H4.size ≤ q) H4 H4 [] := va_S.rf
  refine x_newD hx hb hG hK (hPe _) (hDe _) hSf (fun q h => h) 4 rfl (by decide) (Nat.le_of_ble_eq_true rfl) (Nat.le_of_ble_eq_true rfl) dL_law_21 (fun qd H5 hPd hDd hS6 => ?_)
  have hPd : va_P D vwCl (ouD cD qd (fun _ => 0)) H5 := hPd
  have hzq : H4.size ≤ qd := hDd.2 0 _ rfl
  have hW := hW.kept (fun i hi => hS6.2.1 _ (Nat.lt_of_lt_of_le (hlt i hi) (Nat.le_trans h13 h34)) (Nat.not_le.mpr (Nat.lt_of_lt_of_le (hlt i hi) (Nat.le_trans h13 h34))))
  have hM := hM.kept (fun i hi => hS6.2.1 _ (Nat.lt_of_lt_of_le (hld i hi) h34) (Nat.not_le.mpr (Nat.lt_of_lt_of_le (hld i hi) h34)))
  have hPo := oneK hPo (hS6.2.1 _ hlo (Nat.not_le.mpr hlo))
  have hSg := vS_trans hSe hS6
  refine W.widen (k := 47) (n := 16710) (Nat.le_of_ble_eq_true rfl) (Nat.le_of_ble_eq_true rfl) ?_
  refine lv_astore (lv' := [(4, .ref qd), (3, .ref qo), (2, .ref (d 0)), (1, .ref (ad 0)), (0, .ref b)]) hx hb dL_law_23 hl (by decide) rfl (fun ls hl => ?_)
  refine lv_iconst (v := nI 0) hx hb dL_law_25 (by decide) ?_
  refine lv_istore (lv' := [(5, .int (nI 0)), (4, .ref qd), (3, .ref qo), (2, .ref (d 0)), (1, .ref (ad 0)), (0, .ref b)]) hx hb dL_law_26 hl (by decide) rfl (fun ls hl => ?_)
  have hs1 : s.heap.size ≤ H1.size := hS1.1
  have C : LwC p s m c b L xs D cI cC cZ cL cD ad d ta qo qd := by
    refine ⟨hx, hb0, hml, hown, hG, hK, hE, hT, hZ, hX2, hX, hbl, hL, hap, hapd, hza, fun i hi => Nat.le_trans hs1 (hzd i hi), by omega, by omega, ?_, ?_, ?_, ?_, ?_, by omega, ?_⟩
    · rintro i hi ⟨k, hk, e9⟩
      have h1 := hlt k hk
      have h2 := hzd i hi
      omega
    · rintro ⟨k, hk, e9⟩
      have h1 := hlt k hk
      omega
    · rintro ⟨k, hk, e9⟩
      have h1 := hlt k hk
      omega
    · rintro ⟨k, hk, e9⟩
      have h1 := hld k hk
      omega
    · rintro ⟨k, hk, e9⟩
      have h1 := hld k hk
      omega
    · rintro i hi ⟨k, hk, e9⟩
      have h1 := hlt i hi
      have h2 := hzd k hk
      omega
  exact law_loop hst C hr hlocks (L + 1) 0 (by omega) (by omega) St0 H5 [] ls ⟨inv_0, hW, ⟨_, hM⟩, ⟨_, hPo⟩, ⟨_, hPd⟩, hSg⟩ (lv_sub hl [0, 5, 4, 3, 2, 1] rfl)
