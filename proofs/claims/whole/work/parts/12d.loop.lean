set_option maxHeartbeats 4000000 in
set_option maxRecDepth 100000 in
theorem law_loop {p : Program} {l : Launch} {e : Env} {s : State} {m : MethodId} {below : List Frame} {meth : Method} {c : Code} {b L : Nat} {xs : Nat → Int32} {D : va_G} {cI cC cZ cL cD : ClassId} {ad d ta : Nat → Nat} {qo qd : Nat} (hst : l.stackTraces = false) (C : LwC p s m c b L xs D cI cC cZ cL cD ad d ta qo qd) (hr : meth.sig.returnType = ret) (hlocks : meth.locks = false) : ∀ (n j : Nat), L < 5 * j + n → 5 * j ≤ L → ∀ (S : St) (H : Heap) (locs : List Loc) (ls : Array Slot), LwI D cI cC cZ cL cD ad d qo qd s S (2000 * j) H locs → lv_has ls 10 [(5, .int (nI (5 * j))), (0, .ref (b)), (1, .ref (ad 0)), (2, .ref (d 0)), (3, .ref (qo)), (4, .ref (qd))] → W p l e room_1 s m #[Value.ref b] below meth c H locs (47 + j) (16710 + 6 * j) (lw_Z below #[Value.ref b] s) (F0 m 28 ls []) := by
  intro n
  induction n with
  | zero => intro j h1 h2; omega
  | succ n ih =>
    intro j h1 h2 S H locs ls I hl
    obtain ⟨hx, hb, hml, hown, hG, hK, hE, hT, hZ, hX2, hX, hbl, hL, hap, hapd, hza, hzd, hzo, hzd2, hda, hqo, hqd, hdo, hdd, hne, had⟩ := id C
    obtain ⟨hI, hW, ⟨th, hM⟩, ⟨fo, hPo⟩, ⟨gd, hPd⟩, hS⟩ := id I
    have hb0 : c.code = code := hb
    have hb : c.code = cL_law := hb
    have hbA : ¬ (fun q : Nat => s.heap.size ≤ q) b := Nat.not_le.mpr hbl
    refine lv_iload hx hb dL_law_28 (lv_at hl 0 rfl) ?_
    refine lv_aload_n hx hb dL_law_30 rfl (lv_at hl 1 rfl) ?_
    refine va_slen hx hb hX hbl hbA hS dL_law_31 ?_
    refine lv_iconst (v := nI 5) hx hb dL_law_32 (by decide) ?_
    refine x_isub (v := nI L - nI 5) hx hb dL_law_33 rfl ?_
    refine lv_icmp_gt (tgt := 2886) hx hb dL_law_34 (by decide) (fun c1 => ?_) (fun c1 => ?_)
    · have hj9 : 47 + j ≤ 1089 := by omega
      have hj8 : 16710 + 6 * j ≤ 25010 := by omega
      refine lv_iconst (v := 1) hx hb dL_law_2886 (by decide) ?_
      refine va_forget (fun q hq => hS.2.2 q hq) ?_
      refine W.widen (k := 1089) (n := 25010) hj9 hj8 ?_
      refine W.base ?_
      exact lw_ret (Drawn.sameBut.refl s.drawn lw_cs) hx hb0 hr hlocks dL_law_2887
    · have hj : 5 * j + 5 ≤ L := by
        rw [sub5_lt (by omega) (by omega)] at c1
        omega
      refine lv_aload_n hx hb dL_law_37 rfl (lv_at hl 1 rfl) ?_
      refine lv_iload hx hb dL_law_38 (lv_at hl 0 rfl) ?_
      refine x_sld hx hb hX hbl hbA hS (i := 5 * j) (by omega) (by omega) dL_law_40 ?_
      refine lv_bipush (v := nI 63) hx hb dL_law_41 (by decide) ?_
      refine lv_iand hx hb dL_law_43 ?_
      obtain ⟨k, hk, ek⟩ := pk_andE (xs (5 * j)) (m := nI 63) 6 (by decide)
      rw [ek]
      have hcap : 47 + j + 1 ≤ room_1.cells ∧ 16710 + 6 * j + 6 ≤ room_1.slots := ⟨by show 47 + j + 1 ≤ 1089; omega, by show 16710 + 6 * j + 6 ≤ 25010; omega⟩
      have hN : 2000 * j + 2000 < 2 ^ 31 := by omega
      have kk : ∀ (S1 : St) (H1 : Heap) (locs1 : List Loc) (ls1 : Array Slot), LwI D cI cC cZ cL cD ad d qo qd s S1 (2000 * j + 2000) H1 locs1 → lv_has ls1 10 [(5, .int (nI (5 * j))), (0, .ref (b)), (1, .ref (ad 0)), (2, .ref (d 0)), (3, .ref (qo)), (4, .ref (qd))] → W p l e room_1 s m #[Value.ref b] below meth c H1 locs1 (47 + j + 1) (16710 + 6 * j + 6) (lw_Z below #[Value.ref b] s) (F0 m 2880 ls1 []) := by
        intro S1 H1 locs1 ls1 I1 hl1
        refine lv_iinc (k := 0) (v := nI (5 * j + 5)) (lv' := [(5, .int (nI (5 * j + 5))), (0, .ref (b)), (1, .ref (ad 0)), (2, .ref (d 0)), (3, .ref (qo)), (4, .ref (qd))]) hx hb dL_law_2880 hl1 rfl (show nI (5 * j) + nI 5 = nI (5 * j + 5) from nI_add _ _) (by decide) rfl (fun ls hl => ?_)
        refine lv_goto (tgt := 28) hx hb dL_law_2883 (by decide) ?_
        refine W.widen (k := 47 + (j + 1)) (n := 16710 + 6 * (j + 1)) (by omega) (by omega) ?_
        rw [show 5 * j + 5 = 5 * (j + 1) from by omega] at hl
        exact ih (j + 1) (by omega) (by omega) S1 H1 locs1 ls (by rw [show 2000 * (j + 1) = 2000 * j + 2000 from by omega]; exact I1) hl
      match k, hk with
      | 0, _ => exact lv_tableIn (x := nI 0) (off := 176) (tgt := 220) hx hb dL_law_44 (by decide) (by decide) (by decide) (by decide) (lc_rebind hst C I hj hN hcap hl kk)
      | 1, _ => exact lv_tableIn (x := nI 1) (off := 232) (tgt := 276) hx hb dL_law_44 (by decide) (by decide) (by decide) (by decide) (lc_put hst C I hj hN hcap hl kk)
      | 2, _ => exact lv_tableIn (x := nI 2) (off := 319) (tgt := 363) hx hb dL_law_44 (by decide) (by decide) (by decide) (by decide) (lc_putNew hst C I hj hN hcap hl kk)
      | 3, _ => exact lv_tableIn (x := nI 3) (off := 399) (tgt := 443) hx hb dL_law_44 (by decide) (by decide) (by decide) (by decide) (lc_add hst C I hj hN hcap hl kk)
      | 4, _ => exact lv_tableIn (x := nI 4) (off := 479) (tgt := 523) hx hb dL_law_44 (by decide) (by decide) (by decide) (by decide) (lc_halve hst C I hj hN hcap hl kk)
      | 5, _ => exact lv_tableIn (x := nI 5) (off := 554) (tgt := 598) hx hb dL_law_44 (by decide) (by decide) (by decide) (by decide) (lc_addToAll hst C I hj hN hcap hl kk)
      | 6, _ => exact lv_tableIn (x := nI 6) (off := 622) (tgt := 666) hx hb dL_law_44 (by decide) (by decide) (by decide) (by decide) (lc_replace hst C I hj hN hcap hl kk)
      | 7, _ => exact lv_tableIn (x := nI 7) (off := 709) (tgt := 753) hx hb dL_law_44 (by decide) (by decide) (by decide) (by decide) (lc_remove hst C I hj hN hcap hl kk)
      | 8, _ => exact lv_tableIn (x := nI 8) (off := 777) (tgt := 821) hx hb dL_law_44 (by decide) (by decide) (by decide) (by decide) (lc_removePair hst C I hj hN hcap hl kk)
      | 9, _ => exact lv_tableIn (x := nI 9) (off := 864) (tgt := 908) hx hb dL_law_44 (by decide) (by decide) (by decide) (by decide) (lc_fill hst C I hj hN hcap hl kk)
      | 10, _ => exact lv_tableIn (x := nI 10) (off := 956) (tgt := 1000) hx hb dL_law_44 (by decide) (by decide) (by decide) (by decide) (lc_pour hst C I hj hN hcap hl kk)
      | 11, _ => exact lv_tableIn (x := nI 11) (off := 1024) (tgt := 1068) hx hb dL_law_44 (by decide) (by decide) (by decide) (by decide) (lc_copy hst C I hj hN hcap hl kk)
      | 12, _ => exact lv_tableIn (x := nI 12) (off := 1092) (tgt := 1136) hx hb dL_law_44 (by decide) (by decide) (by decide) (by decide) (lc_clear hst C I hj hN hcap hl kk)
      | 13, _ => exact lv_tableIn (x := nI 13) (off := 1148) (tgt := 1192) hx hb dL_law_44 (by decide) (by decide) (by decide) (by decide) (lc_offer hst C I hj hN hcap hl kk)
      | 14, _ => exact lv_tableIn (x := nI 14) (off := 1211) (tgt := 1255) hx hb dL_law_44 (by decide) (by decide) (by decide) (by decide) (lc_poll hst C I hj hN hcap hl kk)
      | 15, _ => exact lv_tableIn (x := nI 15) (off := 1255) (tgt := 1299) hx hb dL_law_44 (by decide) (by decide) (by decide) (by decide) (lc_toEnd hst C I hj hN hcap hl kk)
      | 16, _ => exact lv_tableIn (x := nI 16) (off := 1311) (tgt := 1355) hx hb dL_law_44 (by decide) (by decide) (by decide) (by decide) (lc_open hst C I hj hN hcap hl kk)
      | 17, _ => exact lv_tableIn (x := nI 17) (off := 1391) (tgt := 1435) hx hb dL_law_44 (by decide) (by decide) (by decide) (by decide) (lc_hasNext hst C I hj hN hcap hl kk)
      | 18, _ => exact lv_tableIn (x := nI 18) (off := 1454) (tgt := 1498) hx hb dL_law_44 (by decide) (by decide) (by decide) (by decide) (lc_next hst C I hj hN hcap hl kk)
      | 19, _ => exact lv_tableIn (x := nI 19) (off := 1510) (tgt := 1554) hx hb dL_law_44 (by decide) (by decide) (by decide) (by decide) (lc_removeAt hst C I hj hN hcap hl kk)
      | 20, _ => exact lv_tableIn (x := nI 20) (off := 1566) (tgt := 1610) hx hb dL_law_44 (by decide) (by decide) (by decide) (by decide) (lc_setAt hst C I hj hN hcap hl kk)
      | 21, _ => exact lv_tableIn (x := nI 21) (off := 1634) (tgt := 1678) hx hb dL_law_44 (by decide) (by decide) (by decide) (by decide) (lc_bookOf hst C I hj hN hcap hl kk)
      | 22, _ => exact lv_tableIn (x := nI 22) (off := 1690) (tgt := 1734) hx hb dL_law_44 (by decide) (by decide) (by decide) (by decide) (lc_size hst C I hj hN hcap hl kk)
      | 23, _ => exact lv_tableIn (x := nI 23) (off := 1746) (tgt := 1790) hx hb dL_law_44 (by decide) (by decide) (by decide) (by decide) (lc_hasKey hst C I hj hN hcap hl kk)
      | 24, _ => exact lv_tableIn (x := nI 24) (off := 1821) (tgt := 1865) hx hb dL_law_44 (by decide) (by decide) (by decide) (by decide) (lc_hasValue hst C I hj hN hcap hl kk)
      | 25, _ => exact lv_tableIn (x := nI 25) (off := 1896) (tgt := 1940) hx hb dL_law_44 (by decide) (by decide) (by decide) (by decide) (lc_get hst C I hj hN hcap hl kk)
      | 26, _ => exact lv_tableIn (x := nI 26) (off := 1976) (tgt := 2020) hx hb dL_law_44 (by decide) (by decide) (by decide) (by decide) (lc_keyAt hst C I hj hN hcap hl kk)
      | 27, _ => exact lv_tableIn (x := nI 27) (off := 2044) (tgt := 2088) hx hb dL_law_44 (by decide) (by decide) (by decide) (by decide) (lc_valueAt hst C I hj hN hcap hl kk)
      | 28, _ => exact lv_tableIn (x := nI 28) (off := 2112) (tgt := 2156) hx hb dL_law_44 (by decide) (by decide) (by decide) (by decide) (lc_placeOf hst C I hj hN hcap hl kk)
      | 29, _ => exact lv_tableIn (x := nI 29) (off := 2180) (tgt := 2224) hx hb dL_law_44 (by decide) (by decide) (by decide) (by decide) (lc_areEqual hst C I hj hN hcap hl kk)
      | 30, _ => exact lv_tableIn (x := nI 30) (off := 2255) (tgt := 2299) hx hb dL_law_44 (by decide) (by decide) (by decide) (by decide) (lc_areAlike hst C I hj hN hcap hl kk)
      | 31, _ => exact lv_tableIn (x := nI 31) (off := 2330) (tgt := 2374) hx hb dL_law_44 (by decide) (by decide) (by decide) (by decide) (lc_hash hst C I hj hN hcap hl kk)
      | 32, _ => exact lv_tableIn (x := nI 32) (off := 2386) (tgt := 2430) hx hb dL_law_44 (by decide) (by decide) (by decide) (by decide) (lc_sum hst C I hj hN hcap hl kk)
      | 33, _ => exact lv_tableIn (x := nI 33) (off := 2441) (tgt := 2485) hx hb dL_law_44 (by decide) (by decide) (by decide) (by decide) (lc_write hst C I hj hN hcap hl kk)
      | 34, _ => exact lv_tableIn (x := nI 34) (off := 2497) (tgt := 2541) hx hb dL_law_44 (by decide) (by decide) (by decide) (by decide) (lc_outputAt hst C I hj hN hcap hl kk)
      | 35, _ => exact lv_tableIn (x := nI 35) (off := 2553) (tgt := 2597) hx hb dL_law_44 (by decide) (by decide) (by decide) (by decide) (lc_isAddRefused hst C I hj hN hcap hl kk)
      | 36, _ => exact lv_tableIn (x := nI 36) (off := 2628) (tgt := 2672) hx hb dL_law_44 (by decide) (by decide) (by decide) (by decide) (lc_isNothingRefused hst C I hj hN hcap hl kk)
      | 37, _ => exact lv_tableIn (x := nI 37) (off := 2703) (tgt := 2747) hx hb dL_law_44 (by decide) (by decide) (by decide) (by decide) (lc_mean hst C I hj hN hcap hl kk)
      | 38, _ => exact lv_tableIn (x := nI 38) (off := 2780) (tgt := 2824) hx hb dL_law_44 (by decide) (by decide) (by decide) (by decide) (lc_fullness hst C I hj hN hcap hl kk)
      | 39, _ => exact lv_tableIn (x := nI 39) (off := 2823) (tgt := 2867) hx hb dL_law_44 (by decide) (by decide) (by decide) (by decide) (lc_errors hst C I hj hN hcap hl kk)
      | k + 40, hk =>
        refine lv_tableOut (tgt := 2880) hx hb dL_law_44 (by rw [nI_toInt (by omega)]; omega) (by decide) ?_
        refine W.widen (k := 47 + j + 1) (n := 16710 + 6 * j + 6) (by omega) (by omega) ?_
        exact kk S H locs ls ⟨hI, hW.mono (by omega), ⟨th, hM⟩, ⟨fo, hPo⟩, ⟨gd, hPd⟩, hS⟩ hl
