set_option maxHeartbeats 4000000 in
set_option maxRecDepth 100000 in
theorem lc_rebind {p : Program} {l : Launch} {e : Env} {s : State} {m : MethodId} {below : List Frame} {meth : Method} {c : Code} {b L : Nat} {xs : Nat → Int32} {D : va_G} {cI cC cZ cL cD : ClassId} {ad d ta : Nat → Nat} {qo qd : Nat} {Q : State → Prop} (hst : l.stackTraces = false) (C : LwC p s m c b L xs D cI cC cZ cL cD ad d ta qo qd) {S : St} {N : Nat} {H : Heap} {locs : List Loc} {cells slots j : Nat} {ls : Array Slot} (I : LwI D cI cC cZ cL cD ad d qo qd s S N H locs) (hj : 5 * j + 5 ≤ L) (hN : N + 2000 < 2 ^ 31) (hcap : cells + 1 ≤ room_1.cells ∧ slots + 6 ≤ room_1.slots) (hl : lv_has ls 10 [(5, .int (nI (5 * j))), (0, .ref (b)), (1, .ref (ad 0)), (2, .ref (d 0)), (3, .ref (qo)), (4, .ref (qd))]) (kk : ∀ (S1 : St) (H1 : Heap) (locs1 : List Loc) (ls1 : Array Slot), LwI D cI cC cZ cL cD ad d qo qd s S1 (N + 2000) H1 locs1 → lv_has ls1 10 [(5, .int (nI (5 * j))), (0, .ref (b)), (1, .ref (ad 0)), (2, .ref (d 0)), (3, .ref (qo)), (4, .ref (qd))] → W p l e room_1 s m #[Value.ref b] below meth c H1 locs1 (cells + 1) (slots + 6) Q (F0 m 2880 ls1 [])) : W p l e room_1 s m #[Value.ref b] below meth c H locs cells slots Q (F0 m 220 ls []) := by
  obtain ⟨hx, hb, hml, hown, hG, hK, hE, hT, hZ, hX2, hX, hbl, hL, hap, hapd, hza, hzd, hzo, hzd2, hda, hqo, hqd, hdo, hdd, hne, had⟩ := C
  obtain ⟨hI, hW, ⟨th, hM⟩, ⟨fo, hPo⟩, ⟨gd, hPd⟩, hS⟩ := I
  have hb : c.code = cL_law := hb
  have hwr := fun (f : Nat → Int64) => wr_rebind l hst D cI cC cL ad ta s.heap.size S N qo f (xs (5 * j + 1)) hI hN hap hqo
  have hmd := fun (th : Int32) => m_rebind l D cI cZ d S th (xs (5 * j + 1)) hI hapd
  have hcd := cd_rebind S (xs (5 * j + 1))
  have hiv := inv_rebind (xs (5 * j + 1)) hI
  generalize sp_rebind S (xs (5 * j + 1)) = t at hwr hmd hcd hiv
  have hc9 : t.1 ≤ 3 := by
    rcases hcd with h | h
    · omega
    · have h9 := h.1
      omega
  refine lv_aload_n hx hb dL_law_220 rfl (lv_at hl 2 rfl) ?_
  refine lv_aload_n hx hb dL_law_221 rfl (lv_at hl 1 rfl) ?_
  refine lv_iload hx hb dL_law_222 (lv_at hl 0 rfl) ?_
  refine lv_iconst (v := nI 1) hx hb dL_law_224 (by decide) ?_
  refine x_iadd (v := nI ((5 * j) + 1)) hx hb dL_law_225 (nI_add _ _) ?_
  refine x_sld hx hb hX hbl (fun z9 => absurd hbl (Nat.not_lt.mpr z9)) hS (i := (5 * j) + 1) (by omega) (by omega) dL_law_226 ?_
  refine lv_aload_n hx hb dL_law_227 rfl (lv_at hl 4 rfl) ?_
  refine k2_SW hx hb hml hown hG csw_L_145 (hwr fo) (by decide) (pzwS (hK.sub (tys' := [(cI, .int), (cC, .char), (cL, .long)]) [0, 1, 3] rfl) hE hT hZ hX2 hS.2.1 ⟨hW, hPo⟩) rfl hl.1 rfl (Nat.le_of_ble_eq_true rfl) dL_law_228 hcap rfl hS (fun q z9 => z9.elim (fun ⟨i, hi, e9⟩ => e9 ▸ hza i hi) (fun e9 => e9 ▸ hzo)) (fun H locs hB9 hz hk hS => ?_)
  obtain ⟨hW, f9, hPo, hf⟩ := hB9
  have hM := hM.kept (fun i hi => hk _ (hM.lt hi) (fun z9 => z9.elim (hda i hi) (fun e9 => hdo ⟨i, hi, e9.symm⟩)))
  have hPd := oneK hPd (hk qd (va_lt hPd (k := 0) rfl) (fun z9 => z9.elim hqd (fun e9 => hne e9.symm)))
  refine lv_istore (lv' := [(6, .int (nI (t.1))), (5, .int (nI (5 * j))), (0, .ref (b)), (1, .ref (ad 0)), (2, .ref (d 0)), (3, .ref (qo)), (4, .ref (qd))]) hx hb dL_law_231 hl (by decide) rfl (fun ls hl => ?_)
  refine lv_aload_n hx hb dL_law_233 rfl (lv_at hl 4 rfl) ?_
  refine lv_aload_n hx hb dL_law_234 rfl (lv_at hl 2 rfl) ?_
  refine lv_iload hx hb dL_law_235 (lv_at hl 1 rfl) ?_
  refine lv_iconst (v := nI 1) hx hb dL_law_237 (by decide) ?_
  refine x_iadd (v := nI ((5 * j) + 1)) hx hb dL_law_238 (nI_add _ _) ?_
  refine x_sld hx hb hX hbl (fun z9 => absurd hbl (Nat.not_lt.mpr z9)) hS (i := (5 * j) + 1) (by omega) (by omega) dL_law_239 ?_
  refine k2_V hx hb hml hown hG cs_L_150 (hmd th) (by decide) (pzV (hK.sub (tys' := [(cI, .int), (cZ, .boolean)]) [0, 2] rfl) rfl hM.rc hM) rfl hl.1 rfl (Nat.le_of_ble_eq_true rfl) dL_law_240 ⟨hcap.1, hcap.2⟩ rfl hS (fun q ⟨i, hi, e9⟩ => e9 ▸ hzd i hi) (fun H locs hM hz hk hS => ?_)
  have hW := hW.kept (fun i hi => hk _ (hW.lt hi) (had i hi))
  have hPo := oneK hPo (hk qo (va_lt hPo (k := 0) rfl) hdo)
  have hPd := oneK hPd (hk qd (va_lt hPd (k := 0) rfl) hdd)
  refine lv_istore (lv' := [(7, .int (t.2.1)), (6, .int (nI (t.1))), (5, .int (nI (5 * j))), (0, .ref (b)), (1, .ref (ad 0)), (2, .ref (d 0)), (3, .ref (qo)), (4, .ref (qd))]) hx hb dL_law_243 hl (by decide) rfl (fun ls hl => ?_)
  refine lv_aload_n hx hb dL_law_245 rfl (lv_at hl 5 rfl) ?_
  refine k1_V hx hb hml hown hG cs_L_151 (c5_thrown l D cI cZ d t.2.2 (nI t.1)) (by decide) (pzV (hK.sub (tys' := [(cI, .int), (cZ, .boolean)]) [0, 2] rfl) rfl hM.rc hM) rfl hl.1 rfl (Nat.le_of_ble_eq_true rfl) dL_law_246 ⟨hcap.1, hcap.2⟩ rfl ?_
  refine lv_iload hx hb dL_law_249 (lv_at hl 1 rfl) ?_
  refine x_cmp_eq (tgt := 256) hx hb dL_law_251 (by decide) (by omega) (by omega) (fun zc1 => ?_) (fun zc1 => False.elim (by exact absurd rfl zc1))
  refine lv_iload hx hb dL_law_256 (lv_at hl 1 rfl) ?_
  refine x_if_ne (tgt := 273) hx hb dL_law_258 (by decide) (by omega) (fun c0 => ?_) (fun c0 => ?_)
  · refine lv_goto (tgt := 2880) hx hb dL_law_273 (by decide) ?_
    exact kk t.2.2 _ _ ls ⟨hiv, hW, ⟨_, hM⟩, ⟨_, hPo⟩, ⟨_, hPd⟩, hS⟩ (lv_sub hl [2, 3, 4, 5, 6, 7] rfl)
  · refine lv_aload_n hx hb dL_law_261 rfl (lv_at hl 6 rfl) ?_
    refine lv_iconst (v := nI 0) hx hb dL_law_262 (by decide) ?_
    refine x_lald0 hx hb (hf c0) hK hPo 3 rfl dL_law_263 ?_
    refine lv_iload hx hb dL_law_264 (lv_at hl 0 rfl) ?_
    refine lv_i2l (v := Int32.toInt64 t.2.1) hx hb dL_law_266 rfl ?_
    refine W.lcmp hx hb dL_law_267 ?_
    refine x_lifo_eq (tgt := 273) hx hb dL_law_268 (by decide) (fun zc2 => ?_) (fun zc2 => False.elim (by exact absurd rfl zc2))
    refine lv_goto (tgt := 2880) hx hb dL_law_273 (by decide) ?_
    exact kk t.2.2 _ _ ls ⟨hiv, hW, ⟨_, hM⟩, ⟨_, hPo⟩, ⟨_, hPd⟩, hS⟩ (lv_sub hl [2, 3, 4, 5, 6, 7] rfl)
set_option maxHeartbeats 4000000 in
set_option maxRecDepth 100000 in
theorem lc_put {p : Program} {l : Launch} {e : Env} {s : State} {m : MethodId} {below : List Frame} {meth : Method} {c : Code} {b L : Nat} {xs : Nat → Int32} {D : va_G} {cI cC cZ cL cD : ClassId} {ad d ta : Nat → Nat} {qo qd : Nat} {Q : State → Prop} (hst : l.stackTraces = false) (C : LwC p s m c b L xs D cI cC cZ cL cD ad d ta qo qd) {S : St} {N : Nat} {H : Heap} {locs : List Loc} {cells slots j : Nat} {ls : Array Slot} (I : LwI D cI cC cZ cL cD ad d qo qd s S N H locs) (hj : 5 * j + 5 ≤ L) (hN : N + 2000 < 2 ^ 31) (hcap : cells + 1 ≤ room_1.cells ∧ slots + 6 ≤ room_1.slots) (hl : lv_has ls 10 [(5, .int (nI (5 * j))), (0, .ref (b)), (1, .ref (ad 0)), (2, .ref (d 0)), (3, .ref (qo)), (4, .ref (qd))]) (kk : ∀ (S1 : St) (H1 : Heap) (locs1 : List Loc) (ls1 : Array Slot), LwI D cI cC cZ cL cD ad d qo qd s S1 (N + 2000) H1 locs1 → lv_has ls1 10 [(5, .int (nI (5 * j))), (0, .ref (b)), (1, .ref (ad 0)), (2, .ref (d 0)), (3, .ref (qo)), (4, .ref (qd))] → W p l e room_1 s m #[Value.ref b] below meth c H1 locs1 (cells + 1) (slots + 6) Q (F0 m 2880 ls1 [])) : W p l e room_1 s m #[Value.ref b] below meth c H locs cells slots Q (F0 m 276 ls []) := by
  obtain ⟨hx, hb, hml, hown, hG, hK, hE, hT, hZ, hX2, hX, hbl, hL, hap, hapd, hza, hzd, hzo, hzd2, hda, hqo, hqd, hdo, hdd, hne, had⟩ := C
  obtain ⟨hI, hW, ⟨th, hM⟩, ⟨fo, hPo⟩, ⟨gd, hPd⟩, hS⟩ := I
  have hb : c.code = cL_law := hb
  have hwr := fun (f : Nat → Int64) => wr_put l hst D cI cC cL ad ta s.heap.size S N qo f (xs (5 * j + 1)) (xs (5 * j + 2)) (xs (5 * j + 3)) hI hN hap hqo
  have hmd := fun (th : Int32) => m_put l D cI cZ d S th (xs (5 * j + 1)) (xs (5 * j + 2)) (xs (5 * j + 3)) hI hapd
  have hcd := cd_put S (xs (5 * j + 1)) (xs (5 * j + 2)) (xs (5 * j + 3))
  have hiv := inv_put (xs (5 * j + 1)) (xs (5 * j + 2)) (xs (5 * j + 3)) hI
  generalize sp_put S (xs (5 * j + 1)) (xs (5 * j + 2)) (xs (5 * j + 3)) = t at hwr hmd hcd hiv
  have hc9 : t.1 ≤ 3 := by
    rcases hcd with h | h
    · omega
    · have h9 := h.1
      omega
  refine lv_aload_n hx hb dL_law_276 rfl (lv_at hl 2 rfl) ?_
  refine lv_aload_n hx hb dL_law_277 rfl (lv_at hl 1 rfl) ?_
  refine lv_iload hx hb dL_law_278 (lv_at hl 0 rfl) ?_
  refine lv_iconst (v := nI 1) hx hb dL_law_280 (by decide) ?_
  refine x_iadd (v := nI ((5 * j) + 1)) hx hb dL_law_281 (nI_add _ _) ?_
  refine x_sld hx hb hX hbl (fun z9 => absurd hbl (Nat.not_lt.mpr z9)) hS (i := (5 * j) + 1) (by omega) (by omega) dL_law_282 ?_
  refine lv_aload_n hx hb dL_law_283 rfl (lv_at hl 1 rfl) ?_
  refine lv_iload hx hb dL_law_284 (lv_at hl 0 rfl) ?_
  refine lv_iconst (v := nI 2) hx hb dL_law_286 (by decide) ?_
  refine x_iadd (v := nI ((5 * j) + 2)) hx hb dL_law_287 (nI_add _ _) ?_
  refine x_sld hx hb hX hbl (fun z9 => absurd hbl (Nat.not_lt.mpr z9)) hS (i := (5 * j) + 2) (by omega) (by omega) dL_law_288 ?_
  refine lv_aload_n hx hb dL_law_289 rfl (lv_at hl 1 rfl) ?_
  refine lv_iload hx hb dL_law_290 (lv_at hl 0 rfl) ?_
  refine lv_iconst (v := nI 3) hx hb dL_law_292 (by decide) ?_
  refine x_iadd (v := nI ((5 * j) + 3)) hx hb dL_law_293 (nI_add _ _) ?_
  refine x_sld hx hb hX hbl (fun z9 => absurd hbl (Nat.not_lt.mpr z9)) hS (i := (5 * j) + 3) (by omega) (by omega) dL_law_294 ?_
  refine lv_aload_n hx hb dL_law_295 rfl (lv_at hl 4 rfl) ?_
  refine k2_SW hx hb hml hown hG csw_L_154 (hwr fo) (by decide) (pzwS (hK.sub (tys' := [(cI, .int), (cC, .char), (cL, .long)]) [0, 1, 3] rfl) hE hT hZ hX2 hS.2.1 ⟨hW, hPo⟩) rfl hl.1 rfl (Nat.le_of_ble_eq_true rfl) dL_law_296 hcap rfl hS (fun q z9 => z9.elim (fun ⟨i, hi, e9⟩ => e9 ▸ hza i hi) (fun e9 => e9 ▸ hzo)) (fun H locs hB9 hz hk hS => ?_)
  obtain ⟨hW, f9, hPo, hf⟩ := hB9
  have hM := hM.kept (fun i hi => hk _ (hM.lt hi) (fun z9 => z9.elim (hda i hi) (fun e9 => hdo ⟨i, hi, e9.symm⟩)))
  have hPd := oneK hPd (hk qd (va_lt hPd (k := 0) rfl) (fun z9 => z9.elim hqd (fun e9 => hne e9.symm)))
  refine lv_istore (lv' := [(6, .int (nI (t.1))), (5, .int (nI (5 * j))), (0, .ref (b)), (1, .ref (ad 0)), (2, .ref (d 0)), (3, .ref (qo)), (4, .ref (qd))]) hx hb dL_law_299 hl (by decide) rfl (fun ls hl => ?_)
  refine lv_aload_n hx hb dL_law_301 rfl (lv_at hl 4 rfl) ?_
  refine lv_aload_n hx hb dL_law_302 rfl (lv_at hl 2 rfl) ?_
  refine lv_iload hx hb dL_law_303 (lv_at hl 1 rfl) ?_
  refine lv_iconst (v := nI 1) hx hb dL_law_305 (by decide) ?_
  refine x_iadd (v := nI ((5 * j) + 1)) hx hb dL_law_306 (nI_add _ _) ?_
  refine x_sld hx hb hX hbl (fun z9 => absurd hbl (Nat.not_lt.mpr z9)) hS (i := (5 * j) + 1) (by omega) (by omega) dL_law_307 ?_
  refine lv_aload_n hx hb dL_law_308 rfl (lv_at hl 2 rfl) ?_
  refine lv_iload hx hb dL_law_309 (lv_at hl 1 rfl) ?_
  refine lv_iconst (v := nI 2) hx hb dL_law_311 (by decide) ?_
  refine x_iadd (v := nI ((5 * j) + 2)) hx hb dL_law_312 (nI_add _ _) ?_
  refine x_sld hx hb hX hbl (fun z9 => absurd hbl (Nat.not_lt.mpr z9)) hS (i := (5 * j) + 2) (by omega) (by omega) dL_law_313 ?_
  refine lv_aload_n hx hb dL_law_314 rfl (lv_at hl 2 rfl) ?_
  refine lv_iload hx hb dL_law_315 (lv_at hl 1 rfl) ?_
  refine lv_iconst (v := nI 3) hx hb dL_law_317 (by decide) ?_
  refine x_iadd (v := nI ((5 * j) + 3)) hx hb dL_law_318 (nI_add _ _) ?_
  refine x_sld hx hb hX hbl (fun z9 => absurd hbl (Nat.not_lt.mpr z9)) hS (i := (5 * j) + 3) (by omega) (by omega) dL_law_319 ?_
  refine k2_V hx hb hml hown hG cs_L_157 (hmd th) (by decide) (pzV (hK.sub (tys' := [(cI, .int), (cZ, .boolean)]) [0, 2] rfl) rfl hM.rc hM) rfl hl.1 rfl (Nat.le_of_ble_eq_true rfl) dL_law_320 ⟨hcap.1, hcap.2⟩ rfl hS (fun q ⟨i, hi, e9⟩ => e9 ▸ hzd i hi) (fun H locs hM hz hk hS => ?_)
  have hW := hW.kept (fun i hi => hk _ (hW.lt hi) (had i hi))
  have hPo := oneK hPo (hk qo (va_lt hPo (k := 0) rfl) hdo)
  have hPd := oneK hPd (hk qd (va_lt hPd (k := 0) rfl) hdd)
  refine lv_istore (lv' := [(7, .int (bI (t.2.1))), (6, .int (nI (t.1))), (5, .int (nI (5 * j))), (0, .ref (b)), (1, .ref (ad 0)), (2, .ref (d 0)), (3, .ref (qo)), (4, .ref (qd))]) hx hb dL_law_323 hl (by decide) rfl (fun ls hl => ?_)
  refine lv_aload_n hx hb dL_law_325 rfl (lv_at hl 5 rfl) ?_
  refine k1_V hx hb hml hown hG cs_L_151 (c5_thrown l D cI cZ d t.2.2 (nI t.1)) (by decide) (pzV (hK.sub (tys' := [(cI, .int), (cZ, .boolean)]) [0, 2] rfl) rfl hM.rc hM) rfl hl.1 rfl (Nat.le_of_ble_eq_true rfl) dL_law_326 ⟨hcap.1, hcap.2⟩ rfl ?_
  refine lv_iload hx hb dL_law_329 (lv_at hl 1 rfl) ?_
  refine x_cmp_eq (tgt := 336) hx hb dL_law_331 (by decide) (by omega) (by omega) (fun zc1 => ?_) (fun zc1 => False.elim (by exact absurd rfl zc1))
  refine lv_iload hx hb dL_law_336 (lv_at hl 1 rfl) ?_
  refine x_if_ne (tgt := 360) hx hb dL_law_338 (by decide) (by omega) (fun c0 => ?_) (fun c0 => ?_)
  · refine lv_goto (tgt := 2880) hx hb dL_law_360 (by decide) ?_
    exact kk t.2.2 _ _ ls ⟨hiv, hW, ⟨_, hM⟩, ⟨_, hPo⟩, ⟨_, hPd⟩, hS⟩ (lv_sub hl [2, 3, 4, 5, 6, 7] rfl)
  · refine lv_aload_n hx hb dL_law_341 rfl (lv_at hl 6 rfl) ?_
    refine lv_iconst (v := nI 0) hx hb dL_law_342 (by decide) ?_
    refine x_lald0 hx hb (hf c0) hK hPo 3 rfl dL_law_343 ?_
    refine lv_iload hx hb dL_law_344 (lv_at hl 0 rfl) ?_
    refine x_ifb_eq (tgt := 353) hx hb dL_law_346 (by decide) (fun c1 => ?_) (fun c1 => ?_)
    · refine lv_lconst (v := lN (0)) hx hb dL_law_353 (by decide) ?_
      refine W.lcmp hx hb dL_law_354 ?_
      refine x_lifo_eq (tgt := 360) hx hb dL_law_355 (by decide) (fun zc2 => ?_) (fun zc2 => False.elim (by exact absurd (by rw [c1]; rfl) zc2))
      refine lv_goto (tgt := 2880) hx hb dL_law_360 (by decide) ?_
      exact kk t.2.2 _ _ ls ⟨hiv, hW, ⟨_, hM⟩, ⟨_, hPo⟩, ⟨_, hPd⟩, hS⟩ (lv_sub hl [2, 3, 4, 5, 6, 7] rfl)
    · refine lv_lconst (v := lN (1)) hx hb dL_law_349 (by decide) ?_
      refine lv_goto (tgt := 354) hx hb dL_law_350 (by decide) ?_
      refine W.lcmp hx hb dL_law_354 ?_
      refine x_lifo_eq (tgt := 360) hx hb dL_law_355 (by decide) (fun zc3 => ?_) (fun zc3 => False.elim (by exact absurd (by rw [c1]; rfl) zc3))
      refine lv_goto (tgt := 2880) hx hb dL_law_360 (by decide) ?_
      exact kk t.2.2 _ _ ls ⟨hiv, hW, ⟨_, hM⟩, ⟨_, hPo⟩, ⟨_, hPd⟩, hS⟩ (lv_sub hl [2, 3, 4, 5, 6, 7] rfl)
set_option maxHeartbeats 4000000 in
set_option maxRecDepth 100000 in
theorem lc_putNew {p : Program} {l : Launch} {e : Env} {s : State} {m : MethodId} {below : List Frame} {meth : Method} {c : Code} {b L : Nat} {xs : Nat → Int32} {D : va_G} {cI cC cZ cL cD : ClassId} {ad d ta : Nat → Nat} {qo qd : Nat} {Q : State → Prop} (hst : l.stackTraces = false) (C : LwC p s m c b L xs D cI cC cZ cL cD ad d ta qo qd) {S : St} {N : Nat} {H : Heap} {locs : List Loc} {cells slots j : Nat} {ls : Array Slot} (I : LwI D cI cC cZ cL cD ad d qo qd s S N H locs) (hj : 5 * j + 5 ≤ L) (hN : N + 2000 < 2 ^ 31) (hcap : cells + 1 ≤ room_1.cells ∧ slots + 6 ≤ room_1.slots) (hl : lv_has ls 10 [(5, .int (nI (5 * j))), (0, .ref (b)), (1, .ref (ad 0)), (2, .ref (d 0)), (3, .ref (qo)), (4, .ref (qd))]) (kk : ∀ (S1 : St) (H1 : Heap) (locs1 : List Loc) (ls1 : Array Slot), LwI D cI cC cZ cL cD ad d qo qd s S1 (N + 2000) H1 locs1 → lv_has ls1 10 [(5, .int (nI (5 * j))), (0, .ref (b)), (1, .ref (ad 0)), (2, .ref (d 0)), (3, .ref (qo)), (4, .ref (qd))] → W p l e room_1 s m #[Value.ref b] below meth c H1 locs1 (cells + 1) (slots + 6) Q (F0 m 2880 ls1 [])) : W p l e room_1 s m #[Value.ref b] below meth c H locs cells slots Q (F0 m 363 ls []) := by
  obtain ⟨hx, hb, hml, hown, hG, hK, hE, hT, hZ, hX2, hX, hbl, hL, hap, hapd, hza, hzd, hzo, hzd2, hda, hqo, hqd, hdo, hdd, hne, had⟩ := C
  obtain ⟨hI, hW, ⟨th, hM⟩, ⟨fo, hPo⟩, ⟨gd, hPd⟩, hS⟩ := I
  have hb : c.code = cL_law := hb
  have hwr := fun (f : Nat → Int64) => wr_putNew l hst D cI cC cL ad ta s.heap.size S N qo f (xs (5 * j + 1)) (xs (5 * j + 2)) (xs (5 * j + 3)) hI hN hap hqo
  have hmd := fun (th : Int32) => m_putNew l D cI cZ d S th (xs (5 * j + 1)) (xs (5 * j + 2)) (xs (5 * j + 3)) hI hapd
  have hcd := cd_putNew S (xs (5 * j + 1)) (xs (5 * j + 2)) (xs (5 * j + 3))
  have hiv := inv_putNew (xs (5 * j + 1)) (xs (5 * j + 2)) (xs (5 * j + 3)) hI
  generalize sp_putNew S (xs (5 * j + 1)) (xs (5 * j + 2)) (xs (5 * j + 3)) = t at hwr hmd hcd hiv
  have hc9 : t.1 ≤ 3 := by
    rcases hcd with h | h
    · omega
    · have h9 := h.1
      omega
  refine lv_aload_n hx hb dL_law_363 rfl (lv_at hl 2 rfl) ?_
  refine lv_aload_n hx hb dL_law_364 rfl (lv_at hl 1 rfl) ?_
  refine lv_iload hx hb dL_law_365 (lv_at hl 0 rfl) ?_
  refine lv_iconst (v := nI 1) hx hb dL_law_367 (by decide) ?_
  refine x_iadd (v := nI ((5 * j) + 1)) hx hb dL_law_368 (nI_add _ _) ?_
  refine x_sld hx hb hX hbl (fun z9 => absurd hbl (Nat.not_lt.mpr z9)) hS (i := (5 * j) + 1) (by omega) (by omega) dL_law_369 ?_
  refine lv_aload_n hx hb dL_law_370 rfl (lv_at hl 1 rfl) ?_
  refine lv_iload hx hb dL_law_371 (lv_at hl 0 rfl) ?_
  refine lv_iconst (v := nI 2) hx hb dL_law_373 (by decide) ?_
  refine x_iadd (v := nI ((5 * j) + 2)) hx hb dL_law_374 (nI_add _ _) ?_
  refine x_sld hx hb hX hbl (fun z9 => absurd hbl (Nat.not_lt.mpr z9)) hS (i := (5 * j) + 2) (by omega) (by omega) dL_law_375 ?_
  refine lv_aload_n hx hb dL_law_376 rfl (lv_at hl 1 rfl) ?_
  refine lv_iload hx hb dL_law_377 (lv_at hl 0 rfl) ?_
  refine lv_iconst (v := nI 3) hx hb dL_law_379 (by decide) ?_
  refine x_iadd (v := nI ((5 * j) + 3)) hx hb dL_law_380 (nI_add _ _) ?_
  refine x_sld hx hb hX hbl (fun z9 => absurd hbl (Nat.not_lt.mpr z9)) hS (i := (5 * j) + 3) (by omega) (by omega) dL_law_381 ?_
  refine lv_aload_n hx hb dL_law_382 rfl (lv_at hl 4 rfl) ?_
  refine k2_SW hx hb hml hown hG csw_L_158 (hwr fo) (by decide) (pzwS (hK.sub (tys' := [(cI, .int), (cC, .char), (cL, .long)]) [0, 1, 3] rfl) hE hT hZ hX2 hS.2.1 ⟨hW, hPo⟩) rfl hl.1 rfl (Nat.le_of_ble_eq_true rfl) dL_law_383 hcap rfl hS (fun q z9 => z9.elim (fun ⟨i, hi, e9⟩ => e9 ▸ hza i hi) (fun e9 => e9 ▸ hzo)) (fun H locs hB9 hz hk hS => ?_)
  obtain ⟨hW, f9, hPo, hf⟩ := hB9
  have hM := hM.kept (fun i hi => hk _ (hM.lt hi) (fun z9 => z9.elim (hda i hi) (fun e9 => hdo ⟨i, hi, e9.symm⟩)))
  have hPd := oneK hPd (hk qd (va_lt hPd (k := 0) rfl) (fun z9 => z9.elim hqd (fun e9 => hne e9.symm)))
  refine lv_istore (lv' := [(6, .int (nI (t.1))), (5, .int (nI (5 * j))), (0, .ref (b)), (1, .ref (ad 0)), (2, .ref (d 0)), (3, .ref (qo)), (4, .ref (qd))]) hx hb dL_law_386 hl (by decide) rfl (fun ls hl => ?_)
  refine lv_aload_n hx hb dL_law_388 rfl (lv_at hl 4 rfl) ?_
  refine lv_aload_n hx hb dL_law_389 rfl (lv_at hl 2 rfl) ?_
  refine lv_iload hx hb dL_law_390 (lv_at hl 1 rfl) ?_
  refine lv_iconst (v := nI 1) hx hb dL_law_392 (by decide) ?_
  refine x_iadd (v := nI ((5 * j) + 1)) hx hb dL_law_393 (nI_add _ _) ?_
  refine x_sld hx hb hX hbl (fun z9 => absurd hbl (Nat.not_lt.mpr z9)) hS (i := (5 * j) + 1) (by omega) (by omega) dL_law_394 ?_
  refine lv_aload_n hx hb dL_law_395 rfl (lv_at hl 2 rfl) ?_
  refine lv_iload hx hb dL_law_396 (lv_at hl 1 rfl) ?_
  refine lv_iconst (v := nI 2) hx hb dL_law_398 (by decide) ?_
  refine x_iadd (v := nI ((5 * j) + 2)) hx hb dL_law_399 (nI_add _ _) ?_
  refine x_sld hx hb hX hbl (fun z9 => absurd hbl (Nat.not_lt.mpr z9)) hS (i := (5 * j) + 2) (by omega) (by omega) dL_law_400 ?_
  refine lv_aload_n hx hb dL_law_401 rfl (lv_at hl 2 rfl) ?_
  refine lv_iload hx hb dL_law_402 (lv_at hl 1 rfl) ?_
  refine lv_iconst (v := nI 3) hx hb dL_law_404 (by decide) ?_
  refine x_iadd (v := nI ((5 * j) + 3)) hx hb dL_law_405 (nI_add _ _) ?_
  refine x_sld hx hb hX hbl (fun z9 => absurd hbl (Nat.not_lt.mpr z9)) hS (i := (5 * j) + 3) (by omega) (by omega) dL_law_406 ?_
  refine k2_V hx hb hml hown hG cs_L_160 (hmd th) (by decide) (pzV (hK.sub (tys' := [(cI, .int), (cZ, .boolean)]) [0, 2] rfl) rfl hM.rc hM) rfl hl.1 rfl (Nat.le_of_ble_eq_true rfl) dL_law_407 ⟨hcap.1, hcap.2⟩ rfl hS (fun q ⟨i, hi, e9⟩ => e9 ▸ hzd i hi) (fun H locs hM hz hk hS => ?_)
  have hW := hW.kept (fun i hi => hk _ (hW.lt hi) (had i hi))
  have hPo := oneK hPo (hk qo (va_lt hPo (k := 0) rfl) hdo)
  have hPd := oneK hPd (hk qd (va_lt hPd (k := 0) rfl) hdd)
  refine lv_istore (lv' := [(7, .int (t.2.1)), (6, .int (nI (t.1))), (5, .int (nI (5 * j))), (0, .ref (b)), (1, .ref (ad 0)), (2, .ref (d 0)), (3, .ref (qo)), (4, .ref (qd))]) hx hb dL_law_410 hl (by decide) rfl (fun ls hl => ?_)
  refine lv_aload_n hx hb dL_law_412 rfl (lv_at hl 5 rfl) ?_
  refine k1_V hx hb hml hown hG cs_L_151 (c5_thrown l D cI cZ d t.2.2 (nI t.1)) (by decide) (pzV (hK.sub (tys' := [(cI, .int), (cZ, .boolean)]) [0, 2] rfl) rfl hM.rc hM) rfl hl.1 rfl (Nat.le_of_ble_eq_true rfl) dL_law_413 ⟨hcap.1, hcap.2⟩ rfl ?_
  refine lv_iload hx hb dL_law_416 (lv_at hl 1 rfl) ?_
  refine x_cmp_eq (tgt := 423) hx hb dL_law_418 (by decide) (by omega) (by omega) (fun zc1 => ?_) (fun zc1 => False.elim (by exact absurd rfl zc1))
  refine lv_iload hx hb dL_law_423 (lv_at hl 1 rfl) ?_
  refine x_if_ne (tgt := 440) hx hb dL_law_425 (by decide) (by omega) (fun c0 => ?_) (fun c0 => ?_)
  · refine lv_goto (tgt := 2880) hx hb dL_law_440 (by decide) ?_
    exact kk t.2.2 _ _ ls ⟨hiv, hW, ⟨_, hM⟩, ⟨_, hPo⟩, ⟨_, hPd⟩, hS⟩ (lv_sub hl [2, 3, 4, 5, 6, 7] rfl)
  · refine lv_aload_n hx hb dL_law_428 rfl (lv_at hl 6 rfl) ?_
    refine lv_iconst (v := nI 0) hx hb dL_law_429 (by decide) ?_
    refine x_lald0 hx hb (hf c0) hK hPo 3 rfl dL_law_430 ?_
    refine lv_iload hx hb dL_law_431 (lv_at hl 0 rfl) ?_
    refine lv_i2l (v := Int32.toInt64 t.2.1) hx hb dL_law_433 rfl ?_
    refine W.lcmp hx hb dL_law_434 ?_
    refine x_lifo_eq (tgt := 440) hx hb dL_law_435 (by decide) (fun zc2 => ?_) (fun zc2 => False.elim (by exact absurd rfl zc2))
    refine lv_goto (tgt := 2880) hx hb dL_law_440 (by decide) ?_
    exact kk t.2.2 _ _ ls ⟨hiv, hW, ⟨_, hM⟩, ⟨_, hPo⟩, ⟨_, hPd⟩, hS⟩ (lv_sub hl [2, 3, 4, 5, 6, 7] rfl)
set_option maxHeartbeats 4000000 in
set_option maxRecDepth 100000 in
theorem lc_add {p : Program} {l : Launch} {e : Env} {s : State} {m : MethodId} {below : List Frame} {meth : Method} {c : Code} {b L : Nat} {xs : Nat → Int32} {D : va_G} {cI cC cZ cL cD : ClassId} {ad d ta : Nat → Nat} {qo qd : Nat} {Q : State → Prop} (hst : l.stackTraces = false) (C : LwC p s m c b L xs D cI cC cZ cL cD ad d ta qo qd) {S : St} {N : Nat} {H : Heap} {locs : List Loc} {cells slots j : Nat} {ls : Array Slot} (I : LwI D cI cC cZ cL cD ad d qo qd s S N H locs) (hj : 5 * j + 5 ≤ L) (hN : N + 2000 < 2 ^ 31) (hcap : cells + 1 ≤ room_1.cells ∧ slots + 6 ≤ room_1.slots) (hl : lv_has ls 10 [(5, .int (nI (5 * j))), (0, .ref (b)), (1, .ref (ad 0)), (2, .ref (d 0)), (3, .ref (qo)), (4, .ref (qd))]) (kk : ∀ (S1 : St) (H1 : Heap) (locs1 : List Loc) (ls1 : Array Slot), LwI D cI cC cZ cL cD ad d qo qd s S1 (N + 2000) H1 locs1 → lv_has ls1 10 [(5, .int (nI (5 * j))), (0, .ref (b)), (1, .ref (ad 0)), (2, .ref (d 0)), (3, .ref (qo)), (4, .ref (qd))] → W p l e room_1 s m #[Value.ref b] below meth c H1 locs1 (cells + 1) (slots + 6) Q (F0 m 2880 ls1 [])) : W p l e room_1 s m #[Value.ref b] below meth c H locs cells slots Q (F0 m 443 ls []) := by
  obtain ⟨hx, hb, hml, hown, hG, hK, hE, hT, hZ, hX2, hX, hbl, hL, hap, hapd, hza, hzd, hzo, hzd2, hda, hqo, hqd, hdo, hdd, hne, had⟩ := C
  obtain ⟨hI, hW, ⟨th, hM⟩, ⟨fo, hPo⟩, ⟨gd, hPd⟩, hS⟩ := I
  have hb : c.code = cL_law := hb
  have hwr := fun (f : Nat → Int64) => wr_add l hst D cI cC cL ad ta s.heap.size S N qo f (xs (5 * j + 1)) (xs (5 * j + 2)) (xs (5 * j + 3)) hI hN hap hqo
  have hmd := fun (th : Int32) => m_add l D cI cZ d S th (xs (5 * j + 1)) (xs (5 * j + 2)) (xs (5 * j + 3)) hI hapd
  have hcd := cd_add S (xs (5 * j + 1)) (xs (5 * j + 2)) (xs (5 * j + 3))
  have hiv := inv_add (xs (5 * j + 1)) (xs (5 * j + 2)) (xs (5 * j + 3)) hI
  generalize sp_add S (xs (5 * j + 1)) (xs (5 * j + 2)) (xs (5 * j + 3)) = t at hwr hmd hcd hiv
  have hc9 : t.1 ≤ 3 := by
    rcases hcd with h | h
    · omega
    · have h9 := h.1
      omega
  refine lv_aload_n hx hb dL_law_443 rfl (lv_at hl 2 rfl) ?_
  refine lv_aload_n hx hb dL_law_444 rfl (lv_at hl 1 rfl) ?_
  refine lv_iload hx hb dL_law_445 (lv_at hl 0 rfl) ?_
  refine lv_iconst (v := nI 1) hx hb dL_law_447 (by decide) ?_
  refine x_iadd (v := nI ((5 * j) + 1)) hx hb dL_law_448 (nI_add _ _) ?_
  refine x_sld hx hb hX hbl (fun z9 => absurd hbl (Nat.not_lt.mpr z9)) hS (i := (5 * j) + 1) (by omega) (by omega) dL_law_449 ?_
  refine lv_aload_n hx hb dL_law_450 rfl (lv_at hl 1 rfl) ?_
  refine lv_iload hx hb dL_law_451 (lv_at hl 0 rfl) ?_
  refine lv_iconst (v := nI 2) hx hb dL_law_453 (by decide) ?_
  refine x_iadd (v := nI ((5 * j) + 2)) hx hb dL_law_454 (nI_add _ _) ?_
  refine x_sld hx hb hX hbl (fun z9 => absurd hbl (Nat.not_lt.mpr z9)) hS (i := (5 * j) + 2) (by omega) (by omega) dL_law_455 ?_
  refine lv_aload_n hx hb dL_law_456 rfl (lv_at hl 1 rfl) ?_
  refine lv_iload hx hb dL_law_457 (lv_at hl 0 rfl) ?_
  refine lv_iconst (v := nI 3) hx hb dL_law_459 (by decide) ?_
  refine x_iadd (v := nI ((5 * j) + 3)) hx hb dL_law_460 (nI_add _ _) ?_
  refine x_sld hx hb hX hbl (fun z9 => absurd hbl (Nat.not_lt.mpr z9)) hS (i := (5 * j) + 3) (by omega) (by omega) dL_law_461 ?_
  refine lv_aload_n hx hb dL_law_462 rfl (lv_at hl 4 rfl) ?_
  refine k2_SW hx hb hml hown hG csw_L_161 (hwr fo) (by decide) (pzwS (hK.sub (tys' := [(cI, .int), (cC, .char), (cL, .long)]) [0, 1, 3] rfl) hE hT hZ hX2 hS.2.1 ⟨hW, hPo⟩) rfl hl.1 rfl (Nat.le_of_ble_eq_true rfl) dL_law_463 hcap rfl hS (fun q z9 => z9.elim (fun ⟨i, hi, e9⟩ => e9 ▸ hza i hi) (fun e9 => e9 ▸ hzo)) (fun H locs hB9 hz hk hS => ?_)
  obtain ⟨hW, f9, hPo, hf⟩ := hB9
  have hM := hM.kept (fun i hi => hk _ (hM.lt hi) (fun z9 => z9.elim (hda i hi) (fun e9 => hdo ⟨i, hi, e9.symm⟩)))
  have hPd := oneK hPd (hk qd (va_lt hPd (k := 0) rfl) (fun z9 => z9.elim hqd (fun e9 => hne e9.symm)))
  refine lv_istore (lv' := [(6, .int (nI (t.1))), (5, .int (nI (5 * j))), (0, .ref (b)), (1, .ref (ad 0)), (2, .ref (d 0)), (3, .ref (qo)), (4, .ref (qd))]) hx hb dL_law_466 hl (by decide) rfl (fun ls hl => ?_)
  refine lv_aload_n hx hb dL_law_468 rfl (lv_at hl 4 rfl) ?_
  refine lv_aload_n hx hb dL_law_469 rfl (lv_at hl 2 rfl) ?_
  refine lv_iload hx hb dL_law_470 (lv_at hl 1 rfl) ?_
  refine lv_iconst (v := nI 1) hx hb dL_law_472 (by decide) ?_
  refine x_iadd (v := nI ((5 * j) + 1)) hx hb dL_law_473 (nI_add _ _) ?_
  refine x_sld hx hb hX hbl (fun z9 => absurd hbl (Nat.not_lt.mpr z9)) hS (i := (5 * j) + 1) (by omega) (by omega) dL_law_474 ?_
  refine lv_aload_n hx hb dL_law_475 rfl (lv_at hl 2 rfl) ?_
  refine lv_iload hx hb dL_law_476 (lv_at hl 1 rfl) ?_
  refine lv_iconst (v := nI 2) hx hb dL_law_478 (by decide) ?_
  refine x_iadd (v := nI ((5 * j) + 2)) hx hb dL_law_479 (nI_add _ _) ?_
  refine x_sld hx hb hX hbl (fun z9 => absurd hbl (Nat.not_lt.mpr z9)) hS (i := (5 * j) + 2) (by omega) (by omega) dL_law_480 ?_
  refine lv_aload_n hx hb dL_law_481 rfl (lv_at hl 2 rfl) ?_
  refine lv_iload hx hb dL_law_482 (lv_at hl 1 rfl) ?_
  refine lv_iconst (v := nI 3) hx hb dL_law_484 (by decide) ?_
  refine x_iadd (v := nI ((5 * j) + 3)) hx hb dL_law_485 (nI_add _ _) ?_
  refine x_sld hx hb hX hbl (fun z9 => absurd hbl (Nat.not_lt.mpr z9)) hS (i := (5 * j) + 3) (by omega) (by omega) dL_law_486 ?_
  refine k2_V hx hb hml hown hG cs_L_163 (hmd th) (by decide) (pzV (hK.sub (tys' := [(cI, .int), (cZ, .boolean)]) [0, 2] rfl) rfl hM.rc hM) rfl hl.1 rfl (Nat.le_of_ble_eq_true rfl) dL_law_487 ⟨hcap.1, hcap.2⟩ rfl hS (fun q ⟨i, hi, e9⟩ => e9 ▸ hzd i hi) (fun H locs hM hz hk hS => ?_)
  have hW := hW.kept (fun i hi => hk _ (hW.lt hi) (had i hi))
  have hPo := oneK hPo (hk qo (va_lt hPo (k := 0) rfl) hdo)
  have hPd := oneK hPd (hk qd (va_lt hPd (k := 0) rfl) hdd)
  refine lv_istore (lv' := [(7, .int (t.2.1)), (6, .int (nI (t.1))), (5, .int (nI (5 * j))), (0, .ref (b)), (1, .ref (ad 0)), (2, .ref (d 0)), (3, .ref (qo)), (4, .ref (qd))]) hx hb dL_law_490 hl (by decide) rfl (fun ls hl => ?_)
  refine lv_aload_n hx hb dL_law_492 rfl (lv_at hl 5 rfl) ?_
  refine k1_V hx hb hml hown hG cs_L_151 (c5_thrown l D cI cZ d t.2.2 (nI t.1)) (by decide) (pzV (hK.sub (tys' := [(cI, .int), (cZ, .boolean)]) [0, 2] rfl) rfl hM.rc hM) rfl hl.1 rfl (Nat.le_of_ble_eq_true rfl) dL_law_493 ⟨hcap.1, hcap.2⟩ rfl ?_
  refine lv_iload hx hb dL_law_496 (lv_at hl 1 rfl) ?_
  refine x_cmp_eq (tgt := 503) hx hb dL_law_498 (by decide) (by omega) (by omega) (fun zc1 => ?_) (fun zc1 => False.elim (by exact absurd rfl zc1))
  refine lv_iload hx hb dL_law_503 (lv_at hl 1 rfl) ?_
  refine x_if_ne (tgt := 520) hx hb dL_law_505 (by decide) (by omega) (fun c0 => ?_) (fun c0 => ?_)
  · refine lv_goto (tgt := 2880) hx hb dL_law_520 (by decide) ?_
    exact kk t.2.2 _ _ ls ⟨hiv, hW, ⟨_, hM⟩, ⟨_, hPo⟩, ⟨_, hPd⟩, hS⟩ (lv_sub hl [2, 3, 4, 5, 6, 7] rfl)
  · refine lv_aload_n hx hb dL_law_508 rfl (lv_at hl 6 rfl) ?_
    refine lv_iconst (v := nI 0) hx hb dL_law_509 (by decide) ?_
    refine x_lald0 hx hb (hf c0) hK hPo 3 rfl dL_law_510 ?_
    refine lv_iload hx hb dL_law_511 (lv_at hl 0 rfl) ?_
    refine lv_i2l (v := Int32.toInt64 t.2.1) hx hb dL_law_513 rfl ?_
    refine W.lcmp hx hb dL_law_514 ?_
    refine x_lifo_eq (tgt := 520) hx hb dL_law_515 (by decide) (fun zc2 => ?_) (fun zc2 => False.elim (by exact absurd rfl zc2))
    refine lv_goto (tgt := 2880) hx hb dL_law_520 (by decide) ?_
    exact kk t.2.2 _ _ ls ⟨hiv, hW, ⟨_, hM⟩, ⟨_, hPo⟩, ⟨_, hPd⟩, hS⟩ (lv_sub hl [2, 3, 4, 5, 6, 7] rfl)
set_option maxHeartbeats 4000000 in
set_option maxRecDepth 100000 in
theorem lc_halve {p : Program} {l : Launch} {e : Env} {s : State} {m : MethodId} {below : List Frame} {meth : Method} {c : Code} {b L : Nat} {xs : Nat → Int32} {D : va_G} {cI cC cZ cL cD : ClassId} {ad d ta : Nat → Nat} {qo qd : Nat} {Q : State → Prop} (hst : l.stackTraces = false) (C : LwC p s m c b L xs D cI cC cZ cL cD ad d ta qo qd) {S : St} {N : Nat} {H : Heap} {locs : List Loc} {cells slots j : Nat} {ls : Array Slot} (I : LwI D cI cC cZ cL cD ad d qo qd s S N H locs) (hj : 5 * j + 5 ≤ L) (hN : N + 2000 < 2 ^ 31) (hcap : cells + 1 ≤ room_1.cells ∧ slots + 6 ≤ room_1.slots) (hl : lv_has ls 10 [(5, .int (nI (5 * j))), (0, .ref (b)), (1, .ref (ad 0)), (2, .ref (d 0)), (3, .ref (qo)), (4, .ref (qd))]) (kk : ∀ (S1 : St) (H1 : Heap) (locs1 : List Loc) (ls1 : Array Slot), LwI D cI cC cZ cL cD ad d qo qd s S1 (N + 2000) H1 locs1 → lv_has ls1 10 [(5, .int (nI (5 * j))), (0, .ref (b)), (1, .ref (ad 0)), (2, .ref (d 0)), (3, .ref (qo)), (4, .ref (qd))] → W p l e room_1 s m #[Value.ref b] below meth c H1 locs1 (cells + 1) (slots + 6) Q (F0 m 2880 ls1 [])) : W p l e room_1 s m #[Value.ref b] below meth c H locs cells slots Q (F0 m 523 ls []) := by
  obtain ⟨hx, hb, hml, hown, hG, hK, hE, hT, hZ, hX2, hX, hbl, hL, hap, hapd, hza, hzd, hzo, hzd2, hda, hqo, hqd, hdo, hdd, hne, had⟩ := C
  obtain ⟨hI, hW, ⟨th, hM⟩, ⟨fo, hPo⟩, ⟨gd, hPd⟩, hS⟩ := I
  have hb : c.code = cL_law := hb
  have hwr := fun (f : Nat → Int64) => wr_halve l hst D cI cC cL ad ta s.heap.size S N qo f (xs (5 * j + 1)) (xs (5 * j + 2)) hI hN hap hqo
  have hmd := fun (th : Int32) => m_halve l D cI cZ d S th (xs (5 * j + 1)) (xs (5 * j + 2)) hI hapd
  have hcd := cd_halve S (xs (5 * j + 1)) (xs (5 * j + 2))
  have hiv := inv_halve (xs (5 * j + 1)) (xs (5 * j + 2)) hI
  generalize sp_halve S (xs (5 * j + 1)) (xs (5 * j + 2)) = t at hwr hmd hcd hiv
  have hc9 : t.1 ≤ 3 := by
    rcases hcd with h | h
    · omega
    · have h9 := h.1
      omega
  refine lv_aload_n hx hb dL_law_523 rfl (lv_at hl 2 rfl) ?_
  refine lv_aload_n hx hb dL_law_524 rfl (lv_at hl 1 rfl) ?_
  refine lv_iload hx hb dL_law_525 (lv_at hl 0 rfl) ?_
  refine lv_iconst (v := nI 1) hx hb dL_law_527 (by decide) ?_
  refine x_iadd (v := nI ((5 * j) + 1)) hx hb dL_law_528 (nI_add _ _) ?_
  refine x_sld hx hb hX hbl (fun z9 => absurd hbl (Nat.not_lt.mpr z9)) hS (i := (5 * j) + 1) (by omega) (by omega) dL_law_529 ?_
  refine lv_aload_n hx hb dL_law_530 rfl (lv_at hl 1 rfl) ?_
  refine lv_iload hx hb dL_law_531 (lv_at hl 0 rfl) ?_
  refine lv_iconst (v := nI 2) hx hb dL_law_533 (by decide) ?_
  refine x_iadd (v := nI ((5 * j) + 2)) hx hb dL_law_534 (nI_add _ _) ?_
  refine x_sld hx hb hX hbl (fun z9 => absurd hbl (Nat.not_lt.mpr z9)) hS (i := (5 * j) + 2) (by omega) (by omega) dL_law_535 ?_
  refine lv_aload_n hx hb dL_law_536 rfl (lv_at hl 4 rfl) ?_
  refine k2_SW hx hb hml hown hG csw_L_164 (hwr fo) (by decide) (pzwS (hK.sub (tys' := [(cI, .int), (cC, .char), (cL, .long)]) [0, 1, 3] rfl) hE hT hZ hX2 hS.2.1 ⟨hW, hPo⟩) rfl hl.1 rfl (Nat.le_of_ble_eq_true rfl) dL_law_537 hcap rfl hS (fun q z9 => z9.elim (fun ⟨i, hi, e9⟩ => e9 ▸ hza i hi) (fun e9 => e9 ▸ hzo)) (fun H locs hB9 hz hk hS => ?_)
  obtain ⟨hW, f9, hPo, hf⟩ := hB9
  have hM := hM.kept (fun i hi => hk _ (hM.lt hi) (fun z9 => z9.elim (hda i hi) (fun e9 => hdo ⟨i, hi, e9.symm⟩)))
  have hPd := oneK hPd (hk qd (va_lt hPd (k := 0) rfl) (fun z9 => z9.elim hqd (fun e9 => hne e9.symm)))
  refine lv_istore (lv' := [(6, .int (nI (t.1))), (5, .int (nI (5 * j))), (0, .ref (b)), (1, .ref (ad 0)), (2, .ref (d 0)), (3, .ref (qo)), (4, .ref (qd))]) hx hb dL_law_540 hl (by decide) rfl (fun ls hl => ?_)
  refine lv_aload_n hx hb dL_law_542 rfl (lv_at hl 4 rfl) ?_
  refine lv_aload_n hx hb dL_law_543 rfl (lv_at hl 2 rfl) ?_
  refine lv_iload hx hb dL_law_544 (lv_at hl 1 rfl) ?_
  refine lv_iconst (v := nI 1) hx hb dL_law_546 (by decide) ?_
  refine x_iadd (v := nI ((5 * j) + 1)) hx hb dL_law_547 (nI_add _ _) ?_
  refine x_sld hx hb hX hbl (fun z9 => absurd hbl (Nat.not_lt.mpr z9)) hS (i := (5 * j) + 1) (by omega) (by omega) dL_law_548 ?_
  refine lv_aload_n hx hb dL_law_549 rfl (lv_at hl 2 rfl) ?_
  refine lv_iload hx hb dL_law_550 (lv_at hl 1 rfl) ?_
  refine lv_iconst (v := nI 2) hx hb dL_law_552 (by decide) ?_
  refine x_iadd (v := nI ((5 * j) + 2)) hx hb dL_law_553 (nI_add _ _) ?_
  refine x_sld hx hb hX hbl (fun z9 => absurd hbl (Nat.not_lt.mpr z9)) hS (i := (5 * j) + 2) (by omega) (by omega) dL_law_554 ?_
  refine k2_V hx hb hml hown hG cs_L_167 (hmd th) (by decide) (pzV (hK.sub (tys' := [(cI, .int), (cZ, .boolean)]) [0, 2] rfl) rfl hM.rc hM) rfl hl.1 rfl (Nat.le_of_ble_eq_true rfl) dL_law_555 ⟨hcap.1, hcap.2⟩ rfl hS (fun q ⟨i, hi, e9⟩ => e9 ▸ hzd i hi) (fun H locs hM hz hk hS => ?_)
  have hW := hW.kept (fun i hi => hk _ (hW.lt hi) (had i hi))
  have hPo := oneK hPo (hk qo (va_lt hPo (k := 0) rfl) hdo)
  have hPd := oneK hPd (hk qd (va_lt hPd (k := 0) rfl) hdd)
  refine lv_istore (lv' := [(7, .int (bI (t.2.1))), (6, .int (nI (t.1))), (5, .int (nI (5 * j))), (0, .ref (b)), (1, .ref (ad 0)), (2, .ref (d 0)), (3, .ref (qo)), (4, .ref (qd))]) hx hb dL_law_558 hl (by decide) rfl (fun ls hl => ?_)
  refine lv_aload_n hx hb dL_law_560 rfl (lv_at hl 5 rfl) ?_
  refine k1_V hx hb hml hown hG cs_L_151 (c5_thrown l D cI cZ d t.2.2 (nI t.1)) (by decide) (pzV (hK.sub (tys' := [(cI, .int), (cZ, .boolean)]) [0, 2] rfl) rfl hM.rc hM) rfl hl.1 rfl (Nat.le_of_ble_eq_true rfl) dL_law_561 ⟨hcap.1, hcap.2⟩ rfl ?_
  refine lv_iload hx hb dL_law_564 (lv_at hl 1 rfl) ?_
  refine x_cmp_eq (tgt := 571) hx hb dL_law_566 (by decide) (by omega) (by omega) (fun zc1 => ?_) (fun zc1 => False.elim (by exact absurd rfl zc1))
  refine lv_iload hx hb dL_law_571 (lv_at hl 1 rfl) ?_
  refine x_if_ne (tgt := 595) hx hb dL_law_573 (by decide) (by omega) (fun c0 => ?_) (fun c0 => ?_)
  · refine lv_goto (tgt := 2880) hx hb dL_law_595 (by decide) ?_
    exact kk t.2.2 _ _ ls ⟨hiv, hW, ⟨_, hM⟩, ⟨_, hPo⟩, ⟨_, hPd⟩, hS⟩ (lv_sub hl [2, 3, 4, 5, 6, 7] rfl)
  · refine lv_aload_n hx hb dL_law_576 rfl (lv_at hl 6 rfl) ?_
    refine lv_iconst (v := nI 0) hx hb dL_law_577 (by decide) ?_
    refine x_lald0 hx hb (hf c0) hK hPo 3 rfl dL_law_578 ?_
    refine lv_iload hx hb dL_law_579 (lv_at hl 0 rfl) ?_
    refine x_ifb_eq (tgt := 588) hx hb dL_law_581 (by decide) (fun c1 => ?_) (fun c1 => ?_)
    · refine lv_lconst (v := lN (0)) hx hb dL_law_588 (by decide) ?_
      refine W.lcmp hx hb dL_law_589 ?_
      refine x_lifo_eq (tgt := 595) hx hb dL_law_590 (by decide) (fun zc2 => ?_) (fun zc2 => False.elim (by exact absurd (by rw [c1]; rfl) zc2))
      refine lv_goto (tgt := 2880) hx hb dL_law_595 (by decide) ?_
      exact kk t.2.2 _ _ ls ⟨hiv, hW, ⟨_, hM⟩, ⟨_, hPo⟩, ⟨_, hPd⟩, hS⟩ (lv_sub hl [2, 3, 4, 5, 6, 7] rfl)
    · refine lv_lconst (v := lN (1)) hx hb dL_law_584 (by decide) ?_
      refine lv_goto (tgt := 589) hx hb dL_law_585 (by decide) ?_
      refine W.lcmp hx hb dL_law_589 ?_
      refine x_lifo_eq (tgt := 595) hx hb dL_law_590 (by decide) (fun zc3 => ?_) (fun zc3 => False.elim (by exact absurd (by rw [c1]; rfl) zc3))
      refine lv_goto (tgt := 2880) hx hb dL_law_595 (by decide) ?_
      exact kk t.2.2 _ _ ls ⟨hiv, hW, ⟨_, hM⟩, ⟨_, hPo⟩, ⟨_, hPd⟩, hS⟩ (lv_sub hl [2, 3, 4, 5, 6, 7] rfl)
set_option maxHeartbeats 4000000 in
set_option maxRecDepth 100000 in
theorem lc_addToAll {p : Program} {l : Launch} {e : Env} {s : State} {m : MethodId} {below : List Frame} {meth : Method} {c : Code} {b L : Nat} {xs : Nat → Int32} {D : va_G} {cI cC cZ cL cD : ClassId} {ad d ta : Nat → Nat} {qo qd : Nat} {Q : State → Prop} (hst : l.stackTraces = false) (C : LwC p s m c b L xs D cI cC cZ cL cD ad d ta qo qd) {S : St} {N : Nat} {H : Heap} {locs : List Loc} {cells slots j : Nat} {ls : Array Slot} (I : LwI D cI cC cZ cL cD ad d qo qd s S N H locs) (hj : 5 * j + 5 ≤ L) (hN : N + 2000 < 2 ^ 31) (hcap : cells + 1 ≤ room_1.cells ∧ slots + 6 ≤ room_1.slots) (hl : lv_has ls 10 [(5, .int (nI (5 * j))), (0, .ref (b)), (1, .ref (ad 0)), (2, .ref (d 0)), (3, .ref (qo)), (4, .ref (qd))]) (kk : ∀ (S1 : St) (H1 : Heap) (locs1 : List Loc) (ls1 : Array Slot), LwI D cI cC cZ cL cD ad d qo qd s S1 (N + 2000) H1 locs1 → lv_has ls1 10 [(5, .int (nI (5 * j))), (0, .ref (b)), (1, .ref (ad 0)), (2, .ref (d 0)), (3, .ref (qo)), (4, .ref (qd))] → W p l e room_1 s m #[Value.ref b] below meth c H1 locs1 (cells + 1) (slots + 6) Q (F0 m 2880 ls1 [])) : W p l e room_1 s m #[Value.ref b] below meth c H locs cells slots Q (F0 m 598 ls []) := by
  obtain ⟨hx, hb, hml, hown, hG, hK, hE, hT, hZ, hX2, hX, hbl, hL, hap, hapd, hza, hzd, hzo, hzd2, hda, hqo, hqd, hdo, hdd, hne, had⟩ := C
  obtain ⟨hI, hW, ⟨th, hM⟩, ⟨fo, hPo⟩, ⟨gd, hPd⟩, hS⟩ := I
  have hb : c.code = cL_law := hb
  have hwr := fun (f : Nat → Int64) => wr_addToAll l hst D cI cC cL ad ta s.heap.size S N qo f (xs (5 * j + 1)) (xs (5 * j + 2)) hI hN hap hqo
  have hmd := fun (th : Int32) => m_addToAll l D cI cZ d S th (xs (5 * j + 1)) (xs (5 * j + 2)) hI hapd
  have hcd := cd_addToAll S (xs (5 * j + 1)) (xs (5 * j + 2))
  have hiv := inv_addToAll (xs (5 * j + 1)) (xs (5 * j + 2)) hI
  generalize sp_addToAll S (xs (5 * j + 1)) (xs (5 * j + 2)) = t at hwr hmd hcd hiv
  have hc9 : t.1 ≤ 3 := by
    rcases hcd with h | h
    · omega
    · have h9 := h.1
      omega
  refine lv_aload_n hx hb dL_law_598 rfl (lv_at hl 2 rfl) ?_
  refine lv_aload_n hx hb dL_law_599 rfl (lv_at hl 1 rfl) ?_
  refine lv_iload hx hb dL_law_600 (lv_at hl 0 rfl) ?_
  refine lv_iconst (v := nI 1) hx hb dL_law_602 (by decide) ?_
  refine x_iadd (v := nI ((5 * j) + 1)) hx hb dL_law_603 (nI_add _ _) ?_
  refine x_sld hx hb hX hbl (fun z9 => absurd hbl (Nat.not_lt.mpr z9)) hS (i := (5 * j) + 1) (by omega) (by omega) dL_law_604 ?_
  refine lv_aload_n hx hb dL_law_605 rfl (lv_at hl 1 rfl) ?_
  refine lv_iload hx hb dL_law_606 (lv_at hl 0 rfl) ?_
  refine lv_iconst (v := nI 2) hx hb dL_law_608 (by decide) ?_
  refine x_iadd (v := nI ((5 * j) + 2)) hx hb dL_law_609 (nI_add _ _) ?_
  refine x_sld hx hb hX hbl (fun z9 => absurd hbl (Nat.not_lt.mpr z9)) hS (i := (5 * j) + 2) (by omega) (by omega) dL_law_610 ?_
  refine lv_aload_n hx hb dL_law_611 rfl (lv_at hl 4 rfl) ?_
  refine k2_SW hx hb hml hown hG csw_L_168 (hwr fo) (by decide) (pzwS (hK.sub (tys' := [(cI, .int), (cC, .char), (cL, .long)]) [0, 1, 3] rfl) hE hT hZ hX2 hS.2.1 ⟨hW, hPo⟩) rfl hl.1 rfl (Nat.le_of_ble_eq_true rfl) dL_law_612 hcap rfl hS (fun q z9 => z9.elim (fun ⟨i, hi, e9⟩ => e9 ▸ hza i hi) (fun e9 => e9 ▸ hzo)) (fun H locs hB9 hz hk hS => ?_)
  obtain ⟨hW, f9, hPo, hf⟩ := hB9
  have hM := hM.kept (fun i hi => hk _ (hM.lt hi) (fun z9 => z9.elim (hda i hi) (fun e9 => hdo ⟨i, hi, e9.symm⟩)))
  have hPd := oneK hPd (hk qd (va_lt hPd (k := 0) rfl) (fun z9 => z9.elim hqd (fun e9 => hne e9.symm)))
  refine lv_istore (lv' := [(6, .int (nI (t.1))), (5, .int (nI (5 * j))), (0, .ref (b)), (1, .ref (ad 0)), (2, .ref (d 0)), (3, .ref (qo)), (4, .ref (qd))]) hx hb dL_law_615 hl (by decide) rfl (fun ls hl => ?_)
  refine lv_aload_n hx hb dL_law_617 rfl (lv_at hl 4 rfl) ?_
  refine lv_aload_n hx hb dL_law_618 rfl (lv_at hl 2 rfl) ?_
  refine lv_iload hx hb dL_law_619 (lv_at hl 1 rfl) ?_
  refine lv_iconst (v := nI 1) hx hb dL_law_621 (by decide) ?_
  refine x_iadd (v := nI ((5 * j) + 1)) hx hb dL_law_622 (nI_add _ _) ?_
  refine x_sld hx hb hX hbl (fun z9 => absurd hbl (Nat.not_lt.mpr z9)) hS (i := (5 * j) + 1) (by omega) (by omega) dL_law_623 ?_
  refine lv_aload_n hx hb dL_law_624 rfl (lv_at hl 2 rfl) ?_
  refine lv_iload hx hb dL_law_625 (lv_at hl 1 rfl) ?_
  refine lv_iconst (v := nI 2) hx hb dL_law_627 (by decide) ?_
  refine x_iadd (v := nI ((5 * j) + 2)) hx hb dL_law_628 (nI_add _ _) ?_
  refine x_sld hx hb hX hbl (fun z9 => absurd hbl (Nat.not_lt.mpr z9)) hS (i := (5 * j) + 2) (by omega) (by omega) dL_law_629 ?_
  refine k2_V hx hb hml hown hG cs_L_170 (hmd th) (by decide) (pzV (hK.sub (tys' := [(cI, .int), (cZ, .boolean)]) [0, 2] rfl) rfl hM.rc hM) rfl hl.1 rfl (Nat.le_of_ble_eq_true rfl) dL_law_630 ⟨hcap.1, hcap.2⟩ rfl hS (fun q ⟨i, hi, e9⟩ => e9 ▸ hzd i hi) (fun H locs hM hz hk hS => ?_)
  have hW := hW.kept (fun i hi => hk _ (hW.lt hi) (had i hi))
  have hPo := oneK hPo (hk qo (va_lt hPo (k := 0) rfl) hdo)
  have hPd := oneK hPd (hk qd (va_lt hPd (k := 0) rfl) hdd)
  refine lv_istore (lv' := [(7, .int (t.2.1)), (6, .int (nI (t.1))), (5, .int (nI (5 * j))), (0, .ref (b)), (1, .ref (ad 0)), (2, .ref (d 0)), (3, .ref (qo)), (4, .ref (qd))]) hx hb dL_law_633 hl (by decide) rfl (fun ls hl => ?_)
  refine lv_aload_n hx hb dL_law_635 rfl (lv_at hl 5 rfl) ?_
  refine k1_V hx hb hml hown hG cs_L_151 (c5_thrown l D cI cZ d t.2.2 (nI t.1)) (by decide) (pzV (hK.sub (tys' := [(cI, .int), (cZ, .boolean)]) [0, 2] rfl) rfl hM.rc hM) rfl hl.1 rfl (Nat.le_of_ble_eq_true rfl) dL_law_636 ⟨hcap.1, hcap.2⟩ rfl ?_
  refine lv_iload hx hb dL_law_639 (lv_at hl 1 rfl) ?_
  refine x_cmp_eq (tgt := 646) hx hb dL_law_641 (by decide) (by omega) (by omega) (fun zc1 => ?_) (fun zc1 => False.elim (by exact absurd rfl zc1))
  refine lv_iload hx hb dL_law_646 (lv_at hl 1 rfl) ?_
  refine x_if_ne (tgt := 663) hx hb dL_law_648 (by decide) (by omega) (fun c0 => ?_) (fun c0 => ?_)
  · refine lv_goto (tgt := 2880) hx hb dL_law_663 (by decide) ?_
    exact kk t.2.2 _ _ ls ⟨hiv, hW, ⟨_, hM⟩, ⟨_, hPo⟩, ⟨_, hPd⟩, hS⟩ (lv_sub hl [2, 3, 4, 5, 6, 7] rfl)
  · refine lv_aload_n hx hb dL_law_651 rfl (lv_at hl 6 rfl) ?_
    refine lv_iconst (v := nI 0) hx hb dL_law_652 (by decide) ?_
    refine x_lald0 hx hb (hf c0) hK hPo 3 rfl dL_law_653 ?_
    refine lv_iload hx hb dL_law_654 (lv_at hl 0 rfl) ?_
    refine lv_i2l (v := Int32.toInt64 t.2.1) hx hb dL_law_656 rfl ?_
    refine W.lcmp hx hb dL_law_657 ?_
    refine x_lifo_eq (tgt := 663) hx hb dL_law_658 (by decide) (fun zc2 => ?_) (fun zc2 => False.elim (by exact absurd rfl zc2))
    refine lv_goto (tgt := 2880) hx hb dL_law_663 (by decide) ?_
    exact kk t.2.2 _ _ ls ⟨hiv, hW, ⟨_, hM⟩, ⟨_, hPo⟩, ⟨_, hPd⟩, hS⟩ (lv_sub hl [2, 3, 4, 5, 6, 7] rfl)
set_option maxHeartbeats 4000000 in
set_option maxRecDepth 100000 in
theorem lc_replace {p : Program} {l : Launch} {e : Env} {s : State} {m : MethodId} {below : List Frame} {meth : Method} {c : Code} {b L : Nat} {xs : Nat → Int32} {D : va_G} {cI cC cZ cL cD : ClassId} {ad d ta : Nat → Nat} {qo qd : Nat} {Q : State → Prop} (hst : l.stackTraces = false) (C : LwC p s m c b L xs D cI cC cZ cL cD ad d ta qo qd) {S : St} {N : Nat} {H : Heap} {locs : List Loc} {cells slots j : Nat} {ls : Array Slot} (I : LwI D cI cC cZ cL cD ad d qo qd s S N H locs) (hj : 5 * j + 5 ≤ L) (hN : N + 2000 < 2 ^ 31) (hcap : cells + 1 ≤ room_1.cells ∧ slots + 6 ≤ room_1.slots) (hl : lv_has ls 10 [(5, .int (nI (5 * j))), (0, .ref (b)), (1, .ref (ad 0)), (2, .ref (d 0)), (3, .ref (qo)), (4, .ref (qd))]) (kk : ∀ (S1 : St) (H1 : Heap) (locs1 : List Loc) (ls1 : Array Slot), LwI D cI cC cZ cL cD ad d qo qd s S1 (N + 2000) H1 locs1 → lv_has ls1 10 [(5, .int (nI (5 * j))), (0, .ref (b)), (1, .ref (ad 0)), (2, .ref (d 0)), (3, .ref (qo)), (4, .ref (qd))] → W p l e room_1 s m #[Value.ref b] below meth c H1 locs1 (cells + 1) (slots + 6) Q (F0 m 2880 ls1 [])) : W p l e room_1 s m #[Value.ref b] below meth c H locs cells slots Q (F0 m 666 ls []) := by
  obtain ⟨hx, hb, hml, hown, hG, hK, hE, hT, hZ, hX2, hX, hbl, hL, hap, hapd, hza, hzd, hzo, hzd2, hda, hqo, hqd, hdo, hdd, hne, had⟩ := C
  obtain ⟨hI, hW, ⟨th, hM⟩, ⟨fo, hPo⟩, ⟨gd, hPd⟩, hS⟩ := I
  have hb : c.code = cL_law := hb
  have hwr := fun (f : Nat → Int64) => wr_replace l hst D cI cC cL ad ta s.heap.size S N qo f (xs (5 * j + 1)) (xs (5 * j + 2)) (xs (5 * j + 3)) hI hN hap hqo
  have hmd := fun (th : Int32) => m_replace l D cI cZ d S th (xs (5 * j + 1)) (xs (5 * j + 2)) (xs (5 * j + 3)) hI hapd
  have hcd := cd_replace S (xs (5 * j + 1)) (xs (5 * j + 2)) (xs (5 * j + 3))
  have hiv := inv_replace (xs (5 * j + 1)) (xs (5 * j + 2)) (xs (5 * j + 3)) hI
  generalize sp_replace S (xs (5 * j + 1)) (xs (5 * j + 2)) (xs (5 * j + 3)) = t at hwr hmd hcd hiv
  have hc9 : t.1 ≤ 3 := by
    rcases hcd with h | h
    · omega
    · have h9 := h.1
      omega
  refine lv_aload_n hx hb dL_law_666 rfl (lv_at hl 2 rfl) ?_
  refine lv_aload_n hx hb dL_law_667 rfl (lv_at hl 1 rfl) ?_
  refine lv_iload hx hb dL_law_668 (lv_at hl 0 rfl) ?_
  refine lv_iconst (v := nI 1) hx hb dL_law_670 (by decide) ?_
  refine x_iadd (v := nI ((5 * j) + 1)) hx hb dL_law_671 (nI_add _ _) ?_
  refine x_sld hx hb hX hbl (fun z9 => absurd hbl (Nat.not_lt.mpr z9)) hS (i := (5 * j) + 1) (by omega) (by omega) dL_law_672 ?_
  refine lv_aload_n hx hb dL_law_673 rfl (lv_at hl 1 rfl) ?_
  refine lv_iload hx hb dL_law_674 (lv_at hl 0 rfl) ?_
  refine lv_iconst (v := nI 2) hx hb dL_law_676 (by decide) ?_
  refine x_iadd (v := nI ((5 * j) + 2)) hx hb dL_law_677 (nI_add _ _) ?_
  refine x_sld hx hb hX hbl (fun z9 => absurd hbl (Nat.not_lt.mpr z9)) hS (i := (5 * j) + 2) (by omega) (by omega) dL_law_678 ?_
  refine lv_aload_n hx hb dL_law_679 rfl (lv_at hl 1 rfl) ?_
  refine lv_iload hx hb dL_law_680 (lv_at hl 0 rfl) ?_
  refine lv_iconst (v := nI 3) hx hb dL_law_682 (by decide) ?_
  refine x_iadd (v := nI ((5 * j) + 3)) hx hb dL_law_683 (nI_add _ _) ?_
  refine x_sld hx hb hX hbl (fun z9 => absurd hbl (Nat.not_lt.mpr z9)) hS (i := (5 * j) + 3) (by omega) (by omega) dL_law_684 ?_
  refine lv_aload_n hx hb dL_law_685 rfl (lv_at hl 4 rfl) ?_
  refine k2_SW hx hb hml hown hG csw_L_171 (hwr fo) (by decide) (pzwS (hK.sub (tys' := [(cI, .int), (cC, .char), (cL, .long)]) [0, 1, 3] rfl) hE hT hZ hX2 hS.2.1 ⟨hW, hPo⟩) rfl hl.1 rfl (Nat.le_of_ble_eq_true rfl) dL_law_686 hcap rfl hS (fun q z9 => z9.elim (fun ⟨i, hi, e9⟩ => e9 ▸ hza i hi) (fun e9 => e9 ▸ hzo)) (fun H locs hB9 hz hk hS => ?_)
  obtain ⟨hW, f9, hPo, hf⟩ := hB9
  have hM := hM.kept (fun i hi => hk _ (hM.lt hi) (fun z9 => z9.elim (hda i hi) (fun e9 => hdo ⟨i, hi, e9.symm⟩)))
  have hPd := oneK hPd (hk qd (va_lt hPd (k := 0) rfl) (fun z9 => z9.elim hqd (fun e9 => hne e9.symm)))
  refine lv_istore (lv' := [(6, .int (nI (t.1))), (5, .int (nI (5 * j))), (0, .ref (b)), (1, .ref (ad 0)), (2, .ref (d 0)), (3, .ref (qo)), (4, .ref (qd))]) hx hb dL_law_689 hl (by decide) rfl (fun ls hl => ?_)
  refine lv_aload_n hx hb dL_law_691 rfl (lv_at hl 4 rfl) ?_
  refine lv_aload_n hx hb dL_law_692 rfl (lv_at hl 2 rfl) ?_
  refine lv_iload hx hb dL_law_693 (lv_at hl 1 rfl) ?_
  refine lv_iconst (v := nI 1) hx hb dL_law_695 (by decide) ?_
  refine x_iadd (v := nI ((5 * j) + 1)) hx hb dL_law_696 (nI_add _ _) ?_
  refine x_sld hx hb hX hbl (fun z9 => absurd hbl (Nat.not_lt.mpr z9)) hS (i := (5 * j) + 1) (by omega) (by omega) dL_law_697 ?_
  refine lv_aload_n hx hb dL_law_698 rfl (lv_at hl 2 rfl) ?_
  refine lv_iload hx hb dL_law_699 (lv_at hl 1 rfl) ?_
  refine lv_iconst (v := nI 2) hx hb dL_law_701 (by decide) ?_
  refine x_iadd (v := nI ((5 * j) + 2)) hx hb dL_law_702 (nI_add _ _) ?_
  refine x_sld hx hb hX hbl (fun z9 => absurd hbl (Nat.not_lt.mpr z9)) hS (i := (5 * j) + 2) (by omega) (by omega) dL_law_703 ?_
  refine lv_aload_n hx hb dL_law_704 rfl (lv_at hl 2 rfl) ?_
  refine lv_iload hx hb dL_law_705 (lv_at hl 1 rfl) ?_
  refine lv_iconst (v := nI 3) hx hb dL_law_707 (by decide) ?_
  refine x_iadd (v := nI ((5 * j) + 3)) hx hb dL_law_708 (nI_add _ _) ?_
  refine x_sld hx hb hX hbl (fun z9 => absurd hbl (Nat.not_lt.mpr z9)) hS (i := (5 * j) + 3) (by omega) (by omega) dL_law_709 ?_
  refine k2_V hx hb hml hown hG cs_L_173 (hmd th) (by decide) (pzV (hK.sub (tys' := [(cI, .int), (cZ, .boolean)]) [0, 2] rfl) rfl hM.rc hM) rfl hl.1 rfl (Nat.le_of_ble_eq_true rfl) dL_law_710 ⟨hcap.1, hcap.2⟩ rfl hS (fun q ⟨i, hi, e9⟩ => e9 ▸ hzd i hi) (fun H locs hM hz hk hS => ?_)
  have hW := hW.kept (fun i hi => hk _ (hW.lt hi) (had i hi))
  have hPo := oneK hPo (hk qo (va_lt hPo (k := 0) rfl) hdo)
  have hPd := oneK hPd (hk qd (va_lt hPd (k := 0) rfl) hdd)
  refine lv_istore (lv' := [(7, .int (bI (t.2.1))), (6, .int (nI (t.1))), (5, .int (nI (5 * j))), (0, .ref (b)), (1, .ref (ad 0)), (2, .ref (d 0)), (3, .ref (qo)), (4, .ref (qd))]) hx hb dL_law_713 hl (by decide) rfl (fun ls hl => ?_)
  refine lv_aload_n hx hb dL_law_715 rfl (lv_at hl 5 rfl) ?_
  refine k1_V hx hb hml hown hG cs_L_151 (c5_thrown l D cI cZ d t.2.2 (nI t.1)) (by decide) (pzV (hK.sub (tys' := [(cI, .int), (cZ, .boolean)]) [0, 2] rfl) rfl hM.rc hM) rfl hl.1 rfl (Nat.le_of_ble_eq_true rfl) dL_law_716 ⟨hcap.1, hcap.2⟩ rfl ?_
  refine lv_iload hx hb dL_law_719 (lv_at hl 1 rfl) ?_
  refine x_cmp_eq (tgt := 726) hx hb dL_law_721 (by decide) (by omega) (by omega) (fun zc1 => ?_) (fun zc1 => False.elim (by exact absurd rfl zc1))
  refine lv_iload hx hb dL_law_726 (lv_at hl 1 rfl) ?_
  refine x_if_ne (tgt := 750) hx hb dL_law_728 (by decide) (by omega) (fun c0 => ?_) (fun c0 => ?_)
  · refine lv_goto (tgt := 2880) hx hb dL_law_750 (by decide) ?_
    exact kk t.2.2 _ _ ls ⟨hiv, hW, ⟨_, hM⟩, ⟨_, hPo⟩, ⟨_, hPd⟩, hS⟩ (lv_sub hl [2, 3, 4, 5, 6, 7] rfl)
  · refine lv_aload_n hx hb dL_law_731 rfl (lv_at hl 6 rfl) ?_
    refine lv_iconst (v := nI 0) hx hb dL_law_732 (by decide) ?_
    refine x_lald0 hx hb (hf c0) hK hPo 3 rfl dL_law_733 ?_
    refine lv_iload hx hb dL_law_734 (lv_at hl 0 rfl) ?_
    refine x_ifb_eq (tgt := 743) hx hb dL_law_736 (by decide) (fun c1 => ?_) (fun c1 => ?_)
    · refine lv_lconst (v := lN (0)) hx hb dL_law_743 (by decide) ?_
      refine W.lcmp hx hb dL_law_744 ?_
      refine x_lifo_eq (tgt := 750) hx hb dL_law_745 (by decide) (fun zc2 => ?_) (fun zc2 => False.elim (by exact absurd (by rw [c1]; rfl) zc2))
      refine lv_goto (tgt := 2880) hx hb dL_law_750 (by decide) ?_
      exact kk t.2.2 _ _ ls ⟨hiv, hW, ⟨_, hM⟩, ⟨_, hPo⟩, ⟨_, hPd⟩, hS⟩ (lv_sub hl [2, 3, 4, 5, 6, 7] rfl)
    · refine lv_lconst (v := lN (1)) hx hb dL_law_739 (by decide) ?_
      refine lv_goto (tgt := 744) hx hb dL_law_740 (by decide) ?_
      refine W.lcmp hx hb dL_law_744 ?_
      refine x_lifo_eq (tgt := 750) hx hb dL_law_745 (by decide) (fun zc3 => ?_) (fun zc3 => False.elim (by exact absurd (by rw [c1]; rfl) zc3))
      refine lv_goto (tgt := 2880) hx hb dL_law_750 (by decide) ?_
      exact kk t.2.2 _ _ ls ⟨hiv, hW, ⟨_, hM⟩, ⟨_, hPo⟩, ⟨_, hPd⟩, hS⟩ (lv_sub hl [2, 3, 4, 5, 6, 7] rfl)
set_option maxHeartbeats 4000000 in
set_option maxRecDepth 100000 in
theorem lc_remove {p : Program} {l : Launch} {e : Env} {s : State} {m : MethodId} {below : List Frame} {meth : Method} {c : Code} {b L : Nat} {xs : Nat → Int32} {D : va_G} {cI cC cZ cL cD : ClassId} {ad d ta : Nat → Nat} {qo qd : Nat} {Q : State → Prop} (hst : l.stackTraces = false) (C : LwC p s m c b L xs D cI cC cZ cL cD ad d ta qo qd) {S : St} {N : Nat} {H : Heap} {locs : List Loc} {cells slots j : Nat} {ls : Array Slot} (I : LwI D cI cC cZ cL cD ad d qo qd s S N H locs) (hj : 5 * j + 5 ≤ L) (hN : N + 2000 < 2 ^ 31) (hcap : cells + 1 ≤ room_1.cells ∧ slots + 6 ≤ room_1.slots) (hl : lv_has ls 10 [(5, .int (nI (5 * j))), (0, .ref (b)), (1, .ref (ad 0)), (2, .ref (d 0)), (3, .ref (qo)), (4, .ref (qd))]) (kk : ∀ (S1 : St) (H1 : Heap) (locs1 : List Loc) (ls1 : Array Slot), LwI D cI cC cZ cL cD ad d qo qd s S1 (N + 2000) H1 locs1 → lv_has ls1 10 [(5, .int (nI (5 * j))), (0, .ref (b)), (1, .ref (ad 0)), (2, .ref (d 0)), (3, .ref (qo)), (4, .ref (qd))] → W p l e room_1 s m #[Value.ref b] below meth c H1 locs1 (cells + 1) (slots + 6) Q (F0 m 2880 ls1 [])) : W p l e room_1 s m #[Value.ref b] below meth c H locs cells slots Q (F0 m 753 ls []) := by
  obtain ⟨hx, hb, hml, hown, hG, hK, hE, hT, hZ, hX2, hX, hbl, hL, hap, hapd, hza, hzd, hzo, hzd2, hda, hqo, hqd, hdo, hdd, hne, had⟩ := C
  obtain ⟨hI, hW, ⟨th, hM⟩, ⟨fo, hPo⟩, ⟨gd, hPd⟩, hS⟩ := I
  have hb : c.code = cL_law := hb
  have hwr := fun (f : Nat → Int64) => wr_remove l hst D cI cC cL ad ta s.heap.size S N qo f (xs (5 * j + 1)) (xs (5 * j + 2)) hI hN hap hqo
  have hmd := fun (th : Int32) => m_remove l D cI cZ d S th (xs (5 * j + 1)) (xs (5 * j + 2)) hI hapd
  have hcd := cd_remove S (xs (5 * j + 1)) (xs (5 * j + 2))
  have hiv := inv_remove (xs (5 * j + 1)) (xs (5 * j + 2)) hI
  generalize sp_remove S (xs (5 * j + 1)) (xs (5 * j + 2)) = t at hwr hmd hcd hiv
  have hc9 : t.1 ≤ 3 := by
    rcases hcd with h | h
    · omega
    · have h9 := h.1
      omega
  refine lv_aload_n hx hb dL_law_753 rfl (lv_at hl 2 rfl) ?_
  refine lv_aload_n hx hb dL_law_754 rfl (lv_at hl 1 rfl) ?_
  refine lv_iload hx hb dL_law_755 (lv_at hl 0 rfl) ?_
  refine lv_iconst (v := nI 1) hx hb dL_law_757 (by decide) ?_
  refine x_iadd (v := nI ((5 * j) + 1)) hx hb dL_law_758 (nI_add _ _) ?_
  refine x_sld hx hb hX hbl (fun z9 => absurd hbl (Nat.not_lt.mpr z9)) hS (i := (5 * j) + 1) (by omega) (by omega) dL_law_759 ?_
  refine lv_aload_n hx hb dL_law_760 rfl (lv_at hl 1 rfl) ?_
  refine lv_iload hx hb dL_law_761 (lv_at hl 0 rfl) ?_
  refine lv_iconst (v := nI 2) hx hb dL_law_763 (by decide) ?_
  refine x_iadd (v := nI ((5 * j) + 2)) hx hb dL_law_764 (nI_add _ _) ?_
  refine x_sld hx hb hX hbl (fun z9 => absurd hbl (Nat.not_lt.mpr z9)) hS (i := (5 * j) + 2) (by omega) (by omega) dL_law_765 ?_
  refine lv_aload_n hx hb dL_law_766 rfl (lv_at hl 4 rfl) ?_
  refine k2_SW hx hb hml hown hG csw_L_174 (hwr fo) (by decide) (pzwS (hK.sub (tys' := [(cI, .int), (cC, .char), (cL, .long)]) [0, 1, 3] rfl) hE hT hZ hX2 hS.2.1 ⟨hW, hPo⟩) rfl hl.1 rfl (Nat.le_of_ble_eq_true rfl) dL_law_767 hcap rfl hS (fun q z9 => z9.elim (fun ⟨i, hi, e9⟩ => e9 ▸ hza i hi) (fun e9 => e9 ▸ hzo)) (fun H locs hB9 hz hk hS => ?_)
  obtain ⟨hW, f9, hPo, hf⟩ := hB9
  have hM := hM.kept (fun i hi => hk _ (hM.lt hi) (fun z9 => z9.elim (hda i hi) (fun e9 => hdo ⟨i, hi, e9.symm⟩)))
  have hPd := oneK hPd (hk qd (va_lt hPd (k := 0) rfl) (fun z9 => z9.elim hqd (fun e9 => hne e9.symm)))
  refine lv_istore (lv' := [(6, .int (nI (t.1))), (5, .int (nI (5 * j))), (0, .ref (b)), (1, .ref (ad 0)), (2, .ref (d 0)), (3, .ref (qo)), (4, .ref (qd))]) hx hb dL_law_770 hl (by decide) rfl (fun ls hl => ?_)
  refine lv_aload_n hx hb dL_law_772 rfl (lv_at hl 4 rfl) ?_
  refine lv_aload_n hx hb dL_law_773 rfl (lv_at hl 2 rfl) ?_
  refine lv_iload hx hb dL_law_774 (lv_at hl 1 rfl) ?_
  refine lv_iconst (v := nI 1) hx hb dL_law_776 (by decide) ?_
  refine x_iadd (v := nI ((5 * j) + 1)) hx hb dL_law_777 (nI_add _ _) ?_
  refine x_sld hx hb hX hbl (fun z9 => absurd hbl (Nat.not_lt.mpr z9)) hS (i := (5 * j) + 1) (by omega) (by omega) dL_law_778 ?_
  refine lv_aload_n hx hb dL_law_779 rfl (lv_at hl 2 rfl) ?_
  refine lv_iload hx hb dL_law_780 (lv_at hl 1 rfl) ?_
  refine lv_iconst (v := nI 2) hx hb dL_law_782 (by decide) ?_
  refine x_iadd (v := nI ((5 * j) + 2)) hx hb dL_law_783 (nI_add _ _) ?_
  refine x_sld hx hb hX hbl (fun z9 => absurd hbl (Nat.not_lt.mpr z9)) hS (i := (5 * j) + 2) (by omega) (by omega) dL_law_784 ?_
  refine k2_V hx hb hml hown hG cs_L_176 (hmd th) (by decide) (pzV (hK.sub (tys' := [(cI, .int), (cZ, .boolean)]) [0, 2] rfl) rfl hM.rc hM) rfl hl.1 rfl (Nat.le_of_ble_eq_true rfl) dL_law_785 ⟨hcap.1, hcap.2⟩ rfl hS (fun q ⟨i, hi, e9⟩ => e9 ▸ hzd i hi) (fun H locs hM hz hk hS => ?_)
  have hW := hW.kept (fun i hi => hk _ (hW.lt hi) (had i hi))
  have hPo := oneK hPo (hk qo (va_lt hPo (k := 0) rfl) hdo)
  have hPd := oneK hPd (hk qd (va_lt hPd (k := 0) rfl) hdd)
  refine lv_istore (lv' := [(7, .int (t.2.1)), (6, .int (nI (t.1))), (5, .int (nI (5 * j))), (0, .ref (b)), (1, .ref (ad 0)), (2, .ref (d 0)), (3, .ref (qo)), (4, .ref (qd))]) hx hb dL_law_788 hl (by decide) rfl (fun ls hl => ?_)
  refine lv_aload_n hx hb dL_law_790 rfl (lv_at hl 5 rfl) ?_
  refine k1_V hx hb hml hown hG cs_L_151 (c5_thrown l D cI cZ d t.2.2 (nI t.1)) (by decide) (pzV (hK.sub (tys' := [(cI, .int), (cZ, .boolean)]) [0, 2] rfl) rfl hM.rc hM) rfl hl.1 rfl (Nat.le_of_ble_eq_true rfl) dL_law_791 ⟨hcap.1, hcap.2⟩ rfl ?_
  refine lv_iload hx hb dL_law_794 (lv_at hl 1 rfl) ?_
  refine x_cmp_eq (tgt := 801) hx hb dL_law_796 (by decide) (by omega) (by omega) (fun zc1 => ?_) (fun zc1 => False.elim (by exact absurd rfl zc1))
  refine lv_iload hx hb dL_law_801 (lv_at hl 1 rfl) ?_
  refine x_if_ne (tgt := 818) hx hb dL_law_803 (by decide) (by omega) (fun c0 => ?_) (fun c0 => ?_)
  · refine lv_goto (tgt := 2880) hx hb dL_law_818 (by decide) ?_
    exact kk t.2.2 _ _ ls ⟨hiv, hW, ⟨_, hM⟩, ⟨_, hPo⟩, ⟨_, hPd⟩, hS⟩ (lv_sub hl [2, 3, 4, 5, 6, 7] rfl)
  · refine lv_aload_n hx hb dL_law_806 rfl (lv_at hl 6 rfl) ?_
    refine lv_iconst (v := nI 0) hx hb dL_law_807 (by decide) ?_
    refine x_lald0 hx hb (hf c0) hK hPo 3 rfl dL_law_808 ?_
    refine lv_iload hx hb dL_law_809 (lv_at hl 0 rfl) ?_
    refine lv_i2l (v := Int32.toInt64 t.2.1) hx hb dL_law_811 rfl ?_
    refine W.lcmp hx hb dL_law_812 ?_
    refine x_lifo_eq (tgt := 818) hx hb dL_law_813 (by decide) (fun zc2 => ?_) (fun zc2 => False.elim (by exact absurd rfl zc2))
    refine lv_goto (tgt := 2880) hx hb dL_law_818 (by decide) ?_
    exact kk t.2.2 _ _ ls ⟨hiv, hW, ⟨_, hM⟩, ⟨_, hPo⟩, ⟨_, hPd⟩, hS⟩ (lv_sub hl [2, 3, 4, 5, 6, 7] rfl)
set_option maxHeartbeats 4000000 in
set_option maxRecDepth 100000 in
theorem lc_removePair {p : Program} {l : Launch} {e : Env} {s : State} {m : MethodId} {below : List Frame} {meth : Method} {c : Code} {b L : Nat} {xs : Nat → Int32} {D : va_G} {cI cC cZ cL cD : ClassId} {ad d ta : Nat → Nat} {qo qd : Nat} {Q : State → Prop} (hst : l.stackTraces = false) (C : LwC p s m c b L xs D cI cC cZ cL cD ad d ta qo qd) {S : St} {N : Nat} {H : Heap} {locs : List Loc} {cells slots j : Nat} {ls : Array Slot} (I : LwI D cI cC cZ cL cD ad d qo qd s S N H locs) (hj : 5 * j + 5 ≤ L) (hN : N + 2000 < 2 ^ 31) (hcap : cells + 1 ≤ room_1.cells ∧ slots + 6 ≤ room_1.slots) (hl : lv_has ls 10 [(5, .int (nI (5 * j))), (0, .ref (b)), (1, .ref (ad 0)), (2, .ref (d 0)), (3, .ref (qo)), (4, .ref (qd))]) (kk : ∀ (S1 : St) (H1 : Heap) (locs1 : List Loc) (ls1 : Array Slot), LwI D cI cC cZ cL cD ad d qo qd s S1 (N + 2000) H1 locs1 → lv_has ls1 10 [(5, .int (nI (5 * j))), (0, .ref (b)), (1, .ref (ad 0)), (2, .ref (d 0)), (3, .ref (qo)), (4, .ref (qd))] → W p l e room_1 s m #[Value.ref b] below meth c H1 locs1 (cells + 1) (slots + 6) Q (F0 m 2880 ls1 [])) : W p l e room_1 s m #[Value.ref b] below meth c H locs cells slots Q (F0 m 821 ls []) := by
  obtain ⟨hx, hb, hml, hown, hG, hK, hE, hT, hZ, hX2, hX, hbl, hL, hap, hapd, hza, hzd, hzo, hzd2, hda, hqo, hqd, hdo, hdd, hne, had⟩ := C
  obtain ⟨hI, hW, ⟨th, hM⟩, ⟨fo, hPo⟩, ⟨gd, hPd⟩, hS⟩ := I
  have hb : c.code = cL_law := hb
  have hwr := fun (f : Nat → Int64) => wr_removePair l hst D cI cC cL ad ta s.heap.size S N qo f (xs (5 * j + 1)) (xs (5 * j + 2)) (xs (5 * j + 3)) hI hN hap hqo
  have hmd := fun (th : Int32) => m_removePair l D cI cZ d S th (xs (5 * j + 1)) (xs (5 * j + 2)) (xs (5 * j + 3)) hI hapd
  have hcd := cd_removePair S (xs (5 * j + 1)) (xs (5 * j + 2)) (xs (5 * j + 3))
  have hiv := inv_removePair (xs (5 * j + 1)) (xs (5 * j + 2)) (xs (5 * j + 3)) hI
  generalize sp_removePair S (xs (5 * j + 1)) (xs (5 * j + 2)) (xs (5 * j + 3)) = t at hwr hmd hcd hiv
  have hc9 : t.1 ≤ 3 := by
    rcases hcd with h | h
    · omega
    · have h9 := h.1
      omega
  refine lv_aload_n hx hb dL_law_821 rfl (lv_at hl 2 rfl) ?_
  refine lv_aload_n hx hb dL_law_822 rfl (lv_at hl 1 rfl) ?_
  refine lv_iload hx hb dL_law_823 (lv_at hl 0 rfl) ?_
  refine lv_iconst (v := nI 1) hx hb dL_law_825 (by decide) ?_
  refine x_iadd (v := nI ((5 * j) + 1)) hx hb dL_law_826 (nI_add _ _) ?_
  refine x_sld hx hb hX hbl (fun z9 => absurd hbl (Nat.not_lt.mpr z9)) hS (i := (5 * j) + 1) (by omega) (by omega) dL_law_827 ?_
  refine lv_aload_n hx hb dL_law_828 rfl (lv_at hl 1 rfl) ?_
  refine lv_iload hx hb dL_law_829 (lv_at hl 0 rfl) ?_
  refine lv_iconst (v := nI 2) hx hb dL_law_831 (by decide) ?_
  refine x_iadd (v := nI ((5 * j) + 2)) hx hb dL_law_832 (nI_add _ _) ?_
  refine x_sld hx hb hX hbl (fun z9 => absurd hbl (Nat.not_lt.mpr z9)) hS (i := (5 * j) + 2) (by omega) (by omega) dL_law_833 ?_
  refine lv_aload_n hx hb dL_law_834 rfl (lv_at hl 1 rfl) ?_
  refine lv_iload hx hb dL_law_835 (lv_at hl 0 rfl) ?_
  refine lv_iconst (v := nI 3) hx hb dL_law_837 (by decide) ?_
  refine x_iadd (v := nI ((5 * j) + 3)) hx hb dL_law_838 (nI_add _ _) ?_
  refine x_sld hx hb hX hbl (fun z9 => absurd hbl (Nat.not_lt.mpr z9)) hS (i := (5 * j) + 3) (by omega) (by omega) dL_law_839 ?_
  refine lv_aload_n hx hb dL_law_840 rfl (lv_at hl 4 rfl) ?_
  refine k2_SW hx hb hml hown hG csw_L_177 (hwr fo) (by decide) (pzwS (hK.sub (tys' := [(cI, .int), (cC, .char), (cL, .long)]) [0, 1, 3] rfl) hE hT hZ hX2 hS.2.1 ⟨hW, hPo⟩) rfl hl.1 rfl (Nat.le_of_ble_eq_true rfl) dL_law_841 hcap rfl hS (fun q z9 => z9.elim (fun ⟨i, hi, e9⟩ => e9 ▸ hza i hi) (fun e9 => e9 ▸ hzo)) (fun H locs hB9 hz hk hS => ?_)
  obtain ⟨hW, f9, hPo, hf⟩ := hB9
  have hM := hM.kept (fun i hi => hk _ (hM.lt hi) (fun z9 => z9.elim (hda i hi) (fun e9 => hdo ⟨i, hi, e9.symm⟩)))
  have hPd := oneK hPd (hk qd (va_lt hPd (k := 0) rfl) (fun z9 => z9.elim hqd (fun e9 => hne e9.symm)))
  refine lv_istore (lv' := [(6, .int (nI (t.1))), (5, .int (nI (5 * j))), (0, .ref (b)), (1, .ref (ad 0)), (2, .ref (d 0)), (3, .ref (qo)), (4, .ref (qd))]) hx hb dL_law_844 hl (by decide) rfl (fun ls hl => ?_)
  refine lv_aload_n hx hb dL_law_846 rfl (lv_at hl 4 rfl) ?_
  refine lv_aload_n hx hb dL_law_847 rfl (lv_at hl 2 rfl) ?_
  refine lv_iload hx hb dL_law_848 (lv_at hl 1 rfl) ?_
  refine lv_iconst (v := nI 1) hx hb dL_law_850 (by decide) ?_
  refine x_iadd (v := nI ((5 * j) + 1)) hx hb dL_law_851 (nI_add _ _) ?_
  refine x_sld hx hb hX hbl (fun z9 => absurd hbl (Nat.not_lt.mpr z9)) hS (i := (5 * j) + 1) (by omega) (by omega) dL_law_852 ?_
  refine lv_aload_n hx hb dL_law_853 rfl (lv_at hl 2 rfl) ?_
  refine lv_iload hx hb dL_law_854 (lv_at hl 1 rfl) ?_
  refine lv_iconst (v := nI 2) hx hb dL_law_856 (by decide) ?_
  refine x_iadd (v := nI ((5 * j) + 2)) hx hb dL_law_857 (nI_add _ _) ?_
  refine x_sld hx hb hX hbl (fun z9 => absurd hbl (Nat.not_lt.mpr z9)) hS (i := (5 * j) + 2) (by omega) (by omega) dL_law_858 ?_
  refine lv_aload_n hx hb dL_law_859 rfl (lv_at hl 2 rfl) ?_
  refine lv_iload hx hb dL_law_860 (lv_at hl 1 rfl) ?_
  refine lv_iconst (v := nI 3) hx hb dL_law_862 (by decide) ?_
  refine x_iadd (v := nI ((5 * j) + 3)) hx hb dL_law_863 (nI_add _ _) ?_
  refine x_sld hx hb hX hbl (fun z9 => absurd hbl (Nat.not_lt.mpr z9)) hS (i := (5 * j) + 3) (by omega) (by omega) dL_law_864 ?_
  refine k2_V hx hb hml hown hG cs_L_179 (hmd th) (by decide) (pzV (hK.sub (tys' := [(cI, .int), (cZ, .boolean)]) [0, 2] rfl) rfl hM.rc hM) rfl hl.1 rfl (Nat.le_of_ble_eq_true rfl) dL_law_865 ⟨hcap.1, hcap.2⟩ rfl hS (fun q ⟨i, hi, e9⟩ => e9 ▸ hzd i hi) (fun H locs hM hz hk hS => ?_)
  have hW := hW.kept (fun i hi => hk _ (hW.lt hi) (had i hi))
  have hPo := oneK hPo (hk qo (va_lt hPo (k := 0) rfl) hdo)
  have hPd := oneK hPd (hk qd (va_lt hPd (k := 0) rfl) hdd)
  refine lv_istore (lv' := [(7, .int (bI (t.2.1))), (6, .int (nI (t.1))), (5, .int (nI (5 * j))), (0, .ref (b)), (1, .ref (ad 0)), (2, .ref (d 0)), (3, .ref (qo)), (4, .ref (qd))]) hx hb dL_law_868 hl (by decide) rfl (fun ls hl => ?_)
  refine lv_aload_n hx hb dL_law_870 rfl (lv_at hl 5 rfl) ?_
  refine k1_V hx hb hml hown hG cs_L_151 (c5_thrown l D cI cZ d t.2.2 (nI t.1)) (by decide) (pzV (hK.sub (tys' := [(cI, .int), (cZ, .boolean)]) [0, 2] rfl) rfl hM.rc hM) rfl hl.1 rfl (Nat.le_of_ble_eq_true rfl) dL_law_871 ⟨hcap.1, hcap.2⟩ rfl ?_
  refine lv_iload hx hb dL_law_874 (lv_at hl 1 rfl) ?_
  refine x_cmp_eq (tgt := 881) hx hb dL_law_876 (by decide) (by omega) (by omega) (fun zc1 => ?_) (fun zc1 => False.elim (by exact absurd rfl zc1))
  refine lv_iload hx hb dL_law_881 (lv_at hl 1 rfl) ?_
  refine x_if_ne (tgt := 905) hx hb dL_law_883 (by decide) (by omega) (fun c0 => ?_) (fun c0 => ?_)
  · refine lv_goto (tgt := 2880) hx hb dL_law_905 (by decide) ?_
    exact kk t.2.2 _ _ ls ⟨hiv, hW, ⟨_, hM⟩, ⟨_, hPo⟩, ⟨_, hPd⟩, hS⟩ (lv_sub hl [2, 3, 4, 5, 6, 7] rfl)
  · refine lv_aload_n hx hb dL_law_886 rfl (lv_at hl 6 rfl) ?_
    refine lv_iconst (v := nI 0) hx hb dL_law_887 (by decide) ?_
    refine x_lald0 hx hb (hf c0) hK hPo 3 rfl dL_law_888 ?_
    refine lv_iload hx hb dL_law_889 (lv_at hl 0 rfl) ?_
    refine x_ifb_eq (tgt := 898) hx hb dL_law_891 (by decide) (fun c1 => ?_) (fun c1 => ?_)
    · refine lv_lconst (v := lN (0)) hx hb dL_law_898 (by decide) ?_
      refine W.lcmp hx hb dL_law_899 ?_
      refine x_lifo_eq (tgt := 905) hx hb dL_law_900 (by decide) (fun zc2 => ?_) (fun zc2 => False.elim (by exact absurd (by rw [c1]; rfl) zc2))
      refine lv_goto (tgt := 2880) hx hb dL_law_905 (by decide) ?_
      exact kk t.2.2 _ _ ls ⟨hiv, hW, ⟨_, hM⟩, ⟨_, hPo⟩, ⟨_, hPd⟩, hS⟩ (lv_sub hl [2, 3, 4, 5, 6, 7] rfl)
    · refine lv_lconst (v := lN (1)) hx hb dL_law_894 (by decide) ?_
      refine lv_goto (tgt := 899) hx hb dL_law_895 (by decide) ?_
      refine W.lcmp hx hb dL_law_899 ?_
      refine x_lifo_eq (tgt := 905) hx hb dL_law_900 (by decide) (fun zc3 => ?_) (fun zc3 => False.elim (by exact absurd (by rw [c1]; rfl) zc3))
      refine lv_goto (tgt := 2880) hx hb dL_law_905 (by decide) ?_
      exact kk t.2.2 _ _ ls ⟨hiv, hW, ⟨_, hM⟩, ⟨_, hPo⟩, ⟨_, hPd⟩, hS⟩ (lv_sub hl [2, 3, 4, 5, 6, 7] rfl)
set_option maxHeartbeats 4000000 in
set_option maxRecDepth 100000 in
theorem lc_fill {p : Program} {l : Launch} {e : Env} {s : State} {m : MethodId} {below : List Frame} {meth : Method} {c : Code} {b L : Nat} {xs : Nat → Int32} {D : va_G} {cI cC cZ cL cD : ClassId} {ad d ta : Nat → Nat} {qo qd : Nat} {Q : State → Prop} (hst : l.stackTraces = false) (C : LwC p s m c b L xs D cI cC cZ cL cD ad d ta qo qd) {S : St} {N : Nat} {H : Heap} {locs : List Loc} {cells slots j : Nat} {ls : Array Slot} (I : LwI D cI cC cZ cL cD ad d qo qd s S N H locs) (hj : 5 * j + 5 ≤ L) (hN : N + 2000 < 2 ^ 31) (hcap : cells + 1 ≤ room_1.cells ∧ slots + 6 ≤ room_1.slots) (hl : lv_has ls 10 [(5, .int (nI (5 * j))), (0, .ref (b)), (1, .ref (ad 0)), (2, .ref (d 0)), (3, .ref (qo)), (4, .ref (qd))]) (kk : ∀ (S1 : St) (H1 : Heap) (locs1 : List Loc) (ls1 : Array Slot), LwI D cI cC cZ cL cD ad d qo qd s S1 (N + 2000) H1 locs1 → lv_has ls1 10 [(5, .int (nI (5 * j))), (0, .ref (b)), (1, .ref (ad 0)), (2, .ref (d 0)), (3, .ref (qo)), (4, .ref (qd))] → W p l e room_1 s m #[Value.ref b] below meth c H1 locs1 (cells + 1) (slots + 6) Q (F0 m 2880 ls1 [])) : W p l e room_1 s m #[Value.ref b] below meth c H locs cells slots Q (F0 m 908 ls []) := by
  obtain ⟨hx, hb, hml, hown, hG, hK, hE, hT, hZ, hX2, hX, hbl, hL, hap, hapd, hza, hzd, hzo, hzd2, hda, hqo, hqd, hdo, hdd, hne, had⟩ := C
  obtain ⟨hI, hW, ⟨th, hM⟩, ⟨fo, hPo⟩, ⟨gd, hPd⟩, hS⟩ := I
  have hb : c.code = cL_law := hb
  have hwr := fun (f : Nat → Int64) => wr_fill l hst D cI cC cL ad ta s.heap.size S N qo f (xs (5 * j + 1)) (xs (5 * j + 2)) (xs (5 * j + 3)) (xs (5 * j + 4)) hI hN hap hqo
  have hmd := fun (th : Int32) => m_fill l D cI cZ d S th (xs (5 * j + 1)) (xs (5 * j + 2)) (xs (5 * j + 3)) (xs (5 * j + 4)) hI hapd
  have hcd := cd_fill S (xs (5 * j + 1)) (xs (5 * j + 2)) (xs (5 * j + 3)) (xs (5 * j + 4))
  have hiv := inv_fill (xs (5 * j + 1)) (xs (5 * j + 2)) (xs (5 * j + 3)) (xs (5 * j + 4)) hI
  generalize sp_fill S (xs (5 * j + 1)) (xs (5 * j + 2)) (xs (5 * j + 3)) (xs (5 * j + 4)) = t at hwr hmd hcd hiv
  have hc9 : t.1 ≤ 3 := by
    rcases hcd with h | h
    · omega
    · have h9 := h.1
      omega
  refine lv_aload_n hx hb dL_law_908 rfl (lv_at hl 2 rfl) ?_
  refine lv_aload_n hx hb dL_law_909 rfl (lv_at hl 1 rfl) ?_
  refine lv_iload hx hb dL_law_910 (lv_at hl 0 rfl) ?_
  refine lv_iconst (v := nI 1) hx hb dL_law_912 (by decide) ?_
  refine x_iadd (v := nI ((5 * j) + 1)) hx hb dL_law_913 (nI_add _ _) ?_
  refine x_sld hx hb hX hbl (fun z9 => absurd hbl (Nat.not_lt.mpr z9)) hS (i := (5 * j) + 1) (by omega) (by omega) dL_law_914 ?_
  refine lv_aload_n hx hb dL_law_915 rfl (lv_at hl 1 rfl) ?_
  refine lv_iload hx hb dL_law_916 (lv_at hl 0 rfl) ?_
  refine lv_iconst (v := nI 2) hx hb dL_law_918 (by decide) ?_
  refine x_iadd (v := nI ((5 * j) + 2)) hx hb dL_law_919 (nI_add _ _) ?_
  refine x_sld hx hb hX hbl (fun z9 => absurd hbl (Nat.not_lt.mpr z9)) hS (i := (5 * j) + 2) (by omega) (by omega) dL_law_920 ?_
  refine lv_aload_n hx hb dL_law_921 rfl (lv_at hl 1 rfl) ?_
  refine lv_iload hx hb dL_law_922 (lv_at hl 0 rfl) ?_
  refine lv_iconst (v := nI 3) hx hb dL_law_924 (by decide) ?_
  refine x_iadd (v := nI ((5 * j) + 3)) hx hb dL_law_925 (nI_add _ _) ?_
  refine x_sld hx hb hX hbl (fun z9 => absurd hbl (Nat.not_lt.mpr z9)) hS (i := (5 * j) + 3) (by omega) (by omega) dL_law_926 ?_
  refine lv_aload_n hx hb dL_law_927 rfl (lv_at hl 1 rfl) ?_
  refine lv_iload hx hb dL_law_928 (lv_at hl 0 rfl) ?_
  refine lv_iconst (v := nI 4) hx hb dL_law_930 (by decide) ?_
  refine x_iadd (v := nI ((5 * j) + 4)) hx hb dL_law_931 (nI_add _ _) ?_
  refine x_sld hx hb hX hbl (fun z9 => absurd hbl (Nat.not_lt.mpr z9)) hS (i := (5 * j) + 4) (by omega) (by omega) dL_law_932 ?_
  refine lv_aload_n hx hb dL_law_933 rfl (lv_at hl 4 rfl) ?_
  refine k2_SW hx hb hml hown hG csw_L_180 (hwr fo) (by decide) (pzwS (hK.sub (tys' := [(cI, .int), (cC, .char), (cL, .long)]) [0, 1, 3] rfl) hE hT hZ hX2 hS.2.1 ⟨hW, hPo⟩) rfl hl.1 rfl (Nat.le_of_ble_eq_true rfl) dL_law_934 hcap rfl hS (fun q z9 => z9.elim (fun ⟨i, hi, e9⟩ => e9 ▸ hza i hi) (fun e9 => e9 ▸ hzo)) (fun H locs hB9 hz hk hS => ?_)
  obtain ⟨hW, f9, hPo, hf⟩ := hB9
  have hM := hM.kept (fun i hi => hk _ (hM.lt hi) (fun z9 => z9.elim (hda i hi) (fun e9 => hdo ⟨i, hi, e9.symm⟩)))
  have hPd := oneK hPd (hk qd (va_lt hPd (k := 0) rfl) (fun z9 => z9.elim hqd (fun e9 => hne e9.symm)))
  refine lv_istore (lv' := [(6, .int (nI (t.1))), (5, .int (nI (5 * j))), (0, .ref (b)), (1, .ref (ad 0)), (2, .ref (d 0)), (3, .ref (qo)), (4, .ref (qd))]) hx hb dL_law_937 hl (by decide) rfl (fun ls hl => ?_)
  refine lv_aload_n hx hb dL_law_939 rfl (lv_at hl 4 rfl) ?_
  refine lv_aload_n hx hb dL_law_940 rfl (lv_at hl 2 rfl) ?_
  refine lv_iload hx hb dL_law_941 (lv_at hl 1 rfl) ?_
  refine lv_iconst (v := nI 1) hx hb dL_law_943 (by decide) ?_
  refine x_iadd (v := nI ((5 * j) + 1)) hx hb dL_law_944 (nI_add _ _) ?_
  refine x_sld hx hb hX hbl (fun z9 => absurd hbl (Nat.not_lt.mpr z9)) hS (i := (5 * j) + 1) (by omega) (by omega) dL_law_945 ?_
  refine lv_aload_n hx hb dL_law_946 rfl (lv_at hl 2 rfl) ?_
  refine lv_iload hx hb dL_law_947 (lv_at hl 1 rfl) ?_
  refine lv_iconst (v := nI 2) hx hb dL_law_949 (by decide) ?_
  refine x_iadd (v := nI ((5 * j) + 2)) hx hb dL_law_950 (nI_add _ _) ?_
  refine x_sld hx hb hX hbl (fun z9 => absurd hbl (Nat.not_lt.mpr z9)) hS (i := (5 * j) + 2) (by omega) (by omega) dL_law_951 ?_
  refine lv_aload_n hx hb dL_law_952 rfl (lv_at hl 2 rfl) ?_
  refine lv_iload hx hb dL_law_953 (lv_at hl 1 rfl) ?_
  refine lv_iconst (v := nI 3) hx hb dL_law_955 (by decide) ?_
  refine x_iadd (v := nI ((5 * j) + 3)) hx hb dL_law_956 (nI_add _ _) ?_
  refine x_sld hx hb hX hbl (fun z9 => absurd hbl (Nat.not_lt.mpr z9)) hS (i := (5 * j) + 3) (by omega) (by omega) dL_law_957 ?_
  refine lv_aload_n hx hb dL_law_958 rfl (lv_at hl 2 rfl) ?_
  refine lv_iload hx hb dL_law_959 (lv_at hl 1 rfl) ?_
  refine lv_iconst (v := nI 4) hx hb dL_law_961 (by decide) ?_
  refine x_iadd (v := nI ((5 * j) + 4)) hx hb dL_law_962 (nI_add _ _) ?_
  refine x_sld hx hb hX hbl (fun z9 => absurd hbl (Nat.not_lt.mpr z9)) hS (i := (5 * j) + 4) (by omega) (by omega) dL_law_963 ?_
  refine k2_V hx hb hml hown hG cs_L_183 (hmd th) (by decide) (pzV (hK.sub (tys' := [(cI, .int), (cZ, .boolean)]) [0, 2] rfl) rfl hM.rc hM) rfl hl.1 rfl (Nat.le_of_ble_eq_true rfl) dL_law_964 ⟨hcap.1, hcap.2⟩ rfl hS (fun q ⟨i, hi, e9⟩ => e9 ▸ hzd i hi) (fun H locs hM hz hk hS => ?_)
  have hW := hW.kept (fun i hi => hk _ (hW.lt hi) (had i hi))
  have hPo := oneK hPo (hk qo (va_lt hPo (k := 0) rfl) hdo)
  have hPd := oneK hPd (hk qd (va_lt hPd (k := 0) rfl) hdd)
  refine lv_istore (lv' := [(7, .int (t.2.1)), (6, .int (nI (t.1))), (5, .int (nI (5 * j))), (0, .ref (b)), (1, .ref (ad 0)), (2, .ref (d 0)), (3, .ref (qo)), (4, .ref (qd))]) hx hb dL_law_967 hl (by decide) rfl (fun ls hl => ?_)
  refine lv_aload_n hx hb dL_law_969 rfl (lv_at hl 5 rfl) ?_
  refine k1_V hx hb hml hown hG cs_L_151 (c5_thrown l D cI cZ d t.2.2 (nI t.1)) (by decide) (pzV (hK.sub (tys' := [(cI, .int), (cZ, .boolean)]) [0, 2] rfl) rfl hM.rc hM) rfl hl.1 rfl (Nat.le_of_ble_eq_true rfl) dL_law_970 ⟨hcap.1, hcap.2⟩ rfl ?_
  refine lv_iload hx hb dL_law_973 (lv_at hl 1 rfl) ?_
  refine x_cmp_eq (tgt := 980) hx hb dL_law_975 (by decide) (by omega) (by omega) (fun zc1 => ?_) (fun zc1 => False.elim (by exact absurd rfl zc1))
  refine lv_iload hx hb dL_law_980 (lv_at hl 1 rfl) ?_
  refine x_if_ne (tgt := 997) hx hb dL_law_982 (by decide) (by omega) (fun c0 => ?_) (fun c0 => ?_)
  · refine lv_goto (tgt := 2880) hx hb dL_law_997 (by decide) ?_
    exact kk t.2.2 _ _ ls ⟨hiv, hW, ⟨_, hM⟩, ⟨_, hPo⟩, ⟨_, hPd⟩, hS⟩ (lv_sub hl [2, 3, 4, 5, 6, 7] rfl)
  · refine lv_aload_n hx hb dL_law_985 rfl (lv_at hl 6 rfl) ?_
    refine lv_iconst (v := nI 0) hx hb dL_law_986 (by decide) ?_
    refine x_lald0 hx hb (hf c0) hK hPo 3 rfl dL_law_987 ?_
    refine lv_iload hx hb dL_law_988 (lv_at hl 0 rfl) ?_
    refine lv_i2l (v := Int32.toInt64 t.2.1) hx hb dL_law_990 rfl ?_
    refine W.lcmp hx hb dL_law_991 ?_
    refine x_lifo_eq (tgt := 997) hx hb dL_law_992 (by decide) (fun zc2 => ?_) (fun zc2 => False.elim (by exact absurd rfl zc2))
    refine lv_goto (tgt := 2880) hx hb dL_law_997 (by decide) ?_
    exact kk t.2.2 _ _ ls ⟨hiv, hW, ⟨_, hM⟩, ⟨_, hPo⟩, ⟨_, hPd⟩, hS⟩ (lv_sub hl [2, 3, 4, 5, 6, 7] rfl)
set_option maxHeartbeats 4000000 in
set_option maxRecDepth 100000 in
theorem lc_pour {p : Program} {l : Launch} {e : Env} {s : State} {m : MethodId} {below : List Frame} {meth : Method} {c : Code} {b L : Nat} {xs : Nat → Int32} {D : va_G} {cI cC cZ cL cD : ClassId} {ad d ta : Nat → Nat} {qo qd : Nat} {Q : State → Prop} (hst : l.stackTraces = false) (C : LwC p s m c b L xs D cI cC cZ cL cD ad d ta qo qd) {S : St} {N : Nat} {H : Heap} {locs : List Loc} {cells slots j : Nat} {ls : Array Slot} (I : LwI D cI cC cZ cL cD ad d qo qd s S N H locs) (hj : 5 * j + 5 ≤ L) (hN : N + 2000 < 2 ^ 31) (hcap : cells + 1 ≤ room_1.cells ∧ slots + 6 ≤ room_1.slots) (hl : lv_has ls 10 [(5, .int (nI (5 * j))), (0, .ref (b)), (1, .ref (ad 0)), (2, .ref (d 0)), (3, .ref (qo)), (4, .ref (qd))]) (kk : ∀ (S1 : St) (H1 : Heap) (locs1 : List Loc) (ls1 : Array Slot), LwI D cI cC cZ cL cD ad d qo qd s S1 (N + 2000) H1 locs1 → lv_has ls1 10 [(5, .int (nI (5 * j))), (0, .ref (b)), (1, .ref (ad 0)), (2, .ref (d 0)), (3, .ref (qo)), (4, .ref (qd))] → W p l e room_1 s m #[Value.ref b] below meth c H1 locs1 (cells + 1) (slots + 6) Q (F0 m 2880 ls1 [])) : W p l e room_1 s m #[Value.ref b] below meth c H locs cells slots Q (F0 m 1000 ls []) := by
  obtain ⟨hx, hb, hml, hown, hG, hK, hE, hT, hZ, hX2, hX, hbl, hL, hap, hapd, hza, hzd, hzo, hzd2, hda, hqo, hqd, hdo, hdd, hne, had⟩ := C
  obtain ⟨hI, hW, ⟨th, hM⟩, ⟨fo, hPo⟩, ⟨gd, hPd⟩, hS⟩ := I
  have hb : c.code = cL_law := hb
  have hwr := fun (f : Nat → Int64) => wr_pour l hst D cI cC cL ad ta s.heap.size S N qo f (xs (5 * j + 1)) (xs (5 * j + 2)) hI hN hap hqo
  have hmd := fun (th : Int32) => m_pour l D cI cZ d S th (xs (5 * j + 1)) (xs (5 * j + 2)) hI hapd
  have hcd := cd_pour S (xs (5 * j + 1)) (xs (5 * j + 2))
  have hiv := inv_pour (xs (5 * j + 1)) (xs (5 * j + 2)) hI
  generalize sp_pour S (xs (5 * j + 1)) (xs (5 * j + 2)) = t at hwr hmd hcd hiv
  have hc9 : t.1 ≤ 3 := by
    rcases hcd with h | h
    · omega
    · have h9 := h.1
      omega
  refine lv_aload_n hx hb dL_law_1000 rfl (lv_at hl 2 rfl) ?_
  refine lv_aload_n hx hb dL_law_1001 rfl (lv_at hl 1 rfl) ?_
  refine lv_iload hx hb dL_law_1002 (lv_at hl 0 rfl) ?_
  refine lv_iconst (v := nI 1) hx hb dL_law_1004 (by decide) ?_
  refine x_iadd (v := nI ((5 * j) + 1)) hx hb dL_law_1005 (nI_add _ _) ?_
  refine x_sld hx hb hX hbl (fun z9 => absurd hbl (Nat.not_lt.mpr z9)) hS (i := (5 * j) + 1) (by omega) (by omega) dL_law_1006 ?_
  refine lv_aload_n hx hb dL_law_1007 rfl (lv_at hl 1 rfl) ?_
  refine lv_iload hx hb dL_law_1008 (lv_at hl 0 rfl) ?_
  refine lv_iconst (v := nI 2) hx hb dL_law_1010 (by decide) ?_
  refine x_iadd (v := nI ((5 * j) + 2)) hx hb dL_law_1011 (nI_add _ _) ?_
  refine x_sld hx hb hX hbl (fun z9 => absurd hbl (Nat.not_lt.mpr z9)) hS (i := (5 * j) + 2) (by omega) (by omega) dL_law_1012 ?_
  refine lv_aload_n hx hb dL_law_1013 rfl (lv_at hl 4 rfl) ?_
  refine k2_SW hx hb hml hown hG csw_L_184 (hwr fo) (by decide) (pzwS (hK.sub (tys' := [(cI, .int), (cC, .char), (cL, .long)]) [0, 1, 3] rfl) hE hT hZ hX2 hS.2.1 ⟨hW, hPo⟩) rfl hl.1 rfl (Nat.le_of_ble_eq_true rfl) dL_law_1014 hcap rfl hS (fun q z9 => z9.elim (fun ⟨i, hi, e9⟩ => e9 ▸ hza i hi) (fun e9 => e9 ▸ hzo)) (fun H locs hB9 hz hk hS => ?_)
  obtain ⟨hW, f9, hPo, hf⟩ := hB9
  have hM := hM.kept (fun i hi => hk _ (hM.lt hi) (fun z9 => z9.elim (hda i hi) (fun e9 => hdo ⟨i, hi, e9.symm⟩)))
  have hPd := oneK hPd (hk qd (va_lt hPd (k := 0) rfl) (fun z9 => z9.elim hqd (fun e9 => hne e9.symm)))
  refine lv_istore (lv' := [(6, .int (nI (t.1))), (5, .int (nI (5 * j))), (0, .ref (b)), (1, .ref (ad 0)), (2, .ref (d 0)), (3, .ref (qo)), (4, .ref (qd))]) hx hb dL_law_1017 hl (by decide) rfl (fun ls hl => ?_)
  refine lv_aload_n hx hb dL_law_1019 rfl (lv_at hl 4 rfl) ?_
  refine lv_aload_n hx hb dL_law_1020 rfl (lv_at hl 2 rfl) ?_
  refine lv_iload hx hb dL_law_1021 (lv_at hl 1 rfl) ?_
  refine lv_iconst (v := nI 1) hx hb dL_law_1023 (by decide) ?_
  refine x_iadd (v := nI ((5 * j) + 1)) hx hb dL_law_1024 (nI_add _ _) ?_
  refine x_sld hx hb hX hbl (fun z9 => absurd hbl (Nat.not_lt.mpr z9)) hS (i := (5 * j) + 1) (by omega) (by omega) dL_law_1025 ?_
  refine lv_aload_n hx hb dL_law_1026 rfl (lv_at hl 2 rfl) ?_
  refine lv_iload hx hb dL_law_1027 (lv_at hl 1 rfl) ?_
  refine lv_iconst (v := nI 2) hx hb dL_law_1029 (by decide) ?_
  refine x_iadd (v := nI ((5 * j) + 2)) hx hb dL_law_1030 (nI_add _ _) ?_
  refine x_sld hx hb hX hbl (fun z9 => absurd hbl (Nat.not_lt.mpr z9)) hS (i := (5 * j) + 2) (by omega) (by omega) dL_law_1031 ?_
  refine k2_V hx hb hml hown hG cs_L_186 (hmd th) (by decide) (pzV (hK.sub (tys' := [(cI, .int), (cZ, .boolean)]) [0, 2] rfl) rfl hM.rc hM) rfl hl.1 rfl (Nat.le_of_ble_eq_true rfl) dL_law_1032 ⟨hcap.1, hcap.2⟩ rfl hS (fun q ⟨i, hi, e9⟩ => e9 ▸ hzd i hi) (fun H locs hM hz hk hS => ?_)
  have hW := hW.kept (fun i hi => hk _ (hW.lt hi) (had i hi))
  have hPo := oneK hPo (hk qo (va_lt hPo (k := 0) rfl) hdo)
  have hPd := oneK hPd (hk qd (va_lt hPd (k := 0) rfl) hdd)
  refine lv_istore (lv' := [(7, .int (t.2.1)), (6, .int (nI (t.1))), (5, .int (nI (5 * j))), (0, .ref (b)), (1, .ref (ad 0)), (2, .ref (d 0)), (3, .ref (qo)), (4, .ref (qd))]) hx hb dL_law_1035 hl (by decide) rfl (fun ls hl => ?_)
  refine lv_aload_n hx hb dL_law_1037 rfl (lv_at hl 5 rfl) ?_
  refine k1_V hx hb hml hown hG cs_L_151 (c5_thrown l D cI cZ d t.2.2 (nI t.1)) (by decide) (pzV (hK.sub (tys' := [(cI, .int), (cZ, .boolean)]) [0, 2] rfl) rfl hM.rc hM) rfl hl.1 rfl (Nat.le_of_ble_eq_true rfl) dL_law_1038 ⟨hcap.1, hcap.2⟩ rfl ?_
  refine lv_iload hx hb dL_law_1041 (lv_at hl 1 rfl) ?_
  refine x_cmp_eq (tgt := 1048) hx hb dL_law_1043 (by decide) (by omega) (by omega) (fun zc1 => ?_) (fun zc1 => False.elim (by exact absurd rfl zc1))
  refine lv_iload hx hb dL_law_1048 (lv_at hl 1 rfl) ?_
  refine x_if_ne (tgt := 1065) hx hb dL_law_1050 (by decide) (by omega) (fun c0 => ?_) (fun c0 => ?_)
  · refine lv_goto (tgt := 2880) hx hb dL_law_1065 (by decide) ?_
    exact kk t.2.2 _ _ ls ⟨hiv, hW, ⟨_, hM⟩, ⟨_, hPo⟩, ⟨_, hPd⟩, hS⟩ (lv_sub hl [2, 3, 4, 5, 6, 7] rfl)
  · refine lv_aload_n hx hb dL_law_1053 rfl (lv_at hl 6 rfl) ?_
    refine lv_iconst (v := nI 0) hx hb dL_law_1054 (by decide) ?_
    refine x_lald0 hx hb (hf c0) hK hPo 3 rfl dL_law_1055 ?_
    refine lv_iload hx hb dL_law_1056 (lv_at hl 0 rfl) ?_
    refine lv_i2l (v := Int32.toInt64 t.2.1) hx hb dL_law_1058 rfl ?_
    refine W.lcmp hx hb dL_law_1059 ?_
    refine x_lifo_eq (tgt := 1065) hx hb dL_law_1060 (by decide) (fun zc2 => ?_) (fun zc2 => False.elim (by exact absurd rfl zc2))
    refine lv_goto (tgt := 2880) hx hb dL_law_1065 (by decide) ?_
    exact kk t.2.2 _ _ ls ⟨hiv, hW, ⟨_, hM⟩, ⟨_, hPo⟩, ⟨_, hPd⟩, hS⟩ (lv_sub hl [2, 3, 4, 5, 6, 7] rfl)
set_option maxHeartbeats 4000000 in
set_option maxRecDepth 100000 in
theorem lc_copy {p : Program} {l : Launch} {e : Env} {s : State} {m : MethodId} {below : List Frame} {meth : Method} {c : Code} {b L : Nat} {xs : Nat → Int32} {D : va_G} {cI cC cZ cL cD : ClassId} {ad d ta : Nat → Nat} {qo qd : Nat} {Q : State → Prop} (hst : l.stackTraces = false) (C : LwC p s m c b L xs D cI cC cZ cL cD ad d ta qo qd) {S : St} {N : Nat} {H : Heap} {locs : List Loc} {cells slots j : Nat} {ls : Array Slot} (I : LwI D cI cC cZ cL cD ad d qo qd s S N H locs) (hj : 5 * j + 5 ≤ L) (hN : N + 2000 < 2 ^ 31) (hcap : cells + 1 ≤ room_1.cells ∧ slots + 6 ≤ room_1.slots) (hl : lv_has ls 10 [(5, .int (nI (5 * j))), (0, .ref (b)), (1, .ref (ad 0)), (2, .ref (d 0)), (3, .ref (qo)), (4, .ref (qd))]) (kk : ∀ (S1 : St) (H1 : Heap) (locs1 : List Loc) (ls1 : Array Slot), LwI D cI cC cZ cL cD ad d qo qd s S1 (N + 2000) H1 locs1 → lv_has ls1 10 [(5, .int (nI (5 * j))), (0, .ref (b)), (1, .ref (ad 0)), (2, .ref (d 0)), (3, .ref (qo)), (4, .ref (qd))] → W p l e room_1 s m #[Value.ref b] below meth c H1 locs1 (cells + 1) (slots + 6) Q (F0 m 2880 ls1 [])) : W p l e room_1 s m #[Value.ref b] below meth c H locs cells slots Q (F0 m 1068 ls []) := by
  obtain ⟨hx, hb, hml, hown, hG, hK, hE, hT, hZ, hX2, hX, hbl, hL, hap, hapd, hza, hzd, hzo, hzd2, hda, hqo, hqd, hdo, hdd, hne, had⟩ := C
  obtain ⟨hI, hW, ⟨th, hM⟩, ⟨fo, hPo⟩, ⟨gd, hPd⟩, hS⟩ := I
  have hb : c.code = cL_law := hb
  have hwr := fun (f : Nat → Int64) => wr_copy l hst D cI cC cL ad ta s.heap.size S N qo f (xs (5 * j + 1)) (xs (5 * j + 2)) hI hN hap hqo
  have hmd := fun (th : Int32) => m_copy l D cI cZ d S th (xs (5 * j + 1)) (xs (5 * j + 2)) hI hapd
  have hcd := cd_copy S (xs (5 * j + 1)) (xs (5 * j + 2))
  have hiv := inv_copy (xs (5 * j + 1)) (xs (5 * j + 2)) hI
  generalize sp_copy S (xs (5 * j + 1)) (xs (5 * j + 2)) = t at hwr hmd hcd hiv
  have hc9 : t.1 ≤ 3 := by
    rcases hcd with h | h
    · omega
    · have h9 := h.1
      omega
  refine lv_aload_n hx hb dL_law_1068 rfl (lv_at hl 2 rfl) ?_
  refine lv_aload_n hx hb dL_law_1069 rfl (lv_at hl 1 rfl) ?_
  refine lv_iload hx hb dL_law_1070 (lv_at hl 0 rfl) ?_
  refine lv_iconst (v := nI 1) hx hb dL_law_1072 (by decide) ?_
  refine x_iadd (v := nI ((5 * j) + 1)) hx hb dL_law_1073 (nI_add _ _) ?_
  refine x_sld hx hb hX hbl (fun z9 => absurd hbl (Nat.not_lt.mpr z9)) hS (i := (5 * j) + 1) (by omega) (by omega) dL_law_1074 ?_
  refine lv_aload_n hx hb dL_law_1075 rfl (lv_at hl 1 rfl) ?_
  refine lv_iload hx hb dL_law_1076 (lv_at hl 0 rfl) ?_
  refine lv_iconst (v := nI 2) hx hb dL_law_1078 (by decide) ?_
  refine x_iadd (v := nI ((5 * j) + 2)) hx hb dL_law_1079 (nI_add _ _) ?_
  refine x_sld hx hb hX hbl (fun z9 => absurd hbl (Nat.not_lt.mpr z9)) hS (i := (5 * j) + 2) (by omega) (by omega) dL_law_1080 ?_
  refine lv_aload_n hx hb dL_law_1081 rfl (lv_at hl 4 rfl) ?_
  refine k2_SW hx hb hml hown hG csw_L_187 (hwr fo) (by decide) (pzwS (hK.sub (tys' := [(cI, .int), (cC, .char), (cL, .long)]) [0, 1, 3] rfl) hE hT hZ hX2 hS.2.1 ⟨hW, hPo⟩) rfl hl.1 rfl (Nat.le_of_ble_eq_true rfl) dL_law_1082 hcap rfl hS (fun q z9 => z9.elim (fun ⟨i, hi, e9⟩ => e9 ▸ hza i hi) (fun e9 => e9 ▸ hzo)) (fun H locs hB9 hz hk hS => ?_)
  obtain ⟨hW, f9, hPo, hf⟩ := hB9
  have hM := hM.kept (fun i hi => hk _ (hM.lt hi) (fun z9 => z9.elim (hda i hi) (fun e9 => hdo ⟨i, hi, e9.symm⟩)))
  have hPd := oneK hPd (hk qd (va_lt hPd (k := 0) rfl) (fun z9 => z9.elim hqd (fun e9 => hne e9.symm)))
  refine lv_istore (lv' := [(6, .int (nI (t.1))), (5, .int (nI (5 * j))), (0, .ref (b)), (1, .ref (ad 0)), (2, .ref (d 0)), (3, .ref (qo)), (4, .ref (qd))]) hx hb dL_law_1085 hl (by decide) rfl (fun ls hl => ?_)
  refine lv_aload_n hx hb dL_law_1087 rfl (lv_at hl 4 rfl) ?_
  refine lv_aload_n hx hb dL_law_1088 rfl (lv_at hl 2 rfl) ?_
  refine lv_iload hx hb dL_law_1089 (lv_at hl 1 rfl) ?_
  refine lv_iconst (v := nI 1) hx hb dL_law_1091 (by decide) ?_
  refine x_iadd (v := nI ((5 * j) + 1)) hx hb dL_law_1092 (nI_add _ _) ?_
  refine x_sld hx hb hX hbl (fun z9 => absurd hbl (Nat.not_lt.mpr z9)) hS (i := (5 * j) + 1) (by omega) (by omega) dL_law_1093 ?_
  refine lv_aload_n hx hb dL_law_1094 rfl (lv_at hl 2 rfl) ?_
  refine lv_iload hx hb dL_law_1095 (lv_at hl 1 rfl) ?_
  refine lv_iconst (v := nI 2) hx hb dL_law_1097 (by decide) ?_
  refine x_iadd (v := nI ((5 * j) + 2)) hx hb dL_law_1098 (nI_add _ _) ?_
  refine x_sld hx hb hX hbl (fun z9 => absurd hbl (Nat.not_lt.mpr z9)) hS (i := (5 * j) + 2) (by omega) (by omega) dL_law_1099 ?_
  refine k2_V hx hb hml hown hG cs_L_189 (hmd th) (by decide) (pzV (hK.sub (tys' := [(cI, .int), (cZ, .boolean)]) [0, 2] rfl) rfl hM.rc hM) rfl hl.1 rfl (Nat.le_of_ble_eq_true rfl) dL_law_1100 ⟨hcap.1, hcap.2⟩ rfl hS (fun q ⟨i, hi, e9⟩ => e9 ▸ hzd i hi) (fun H locs hM hz hk hS => ?_)
  have hW := hW.kept (fun i hi => hk _ (hW.lt hi) (had i hi))
  have hPo := oneK hPo (hk qo (va_lt hPo (k := 0) rfl) hdo)
  have hPd := oneK hPd (hk qd (va_lt hPd (k := 0) rfl) hdd)
  refine lv_istore (lv' := [(7, .int (t.2.1)), (6, .int (nI (t.1))), (5, .int (nI (5 * j))), (0, .ref (b)), (1, .ref (ad 0)), (2, .ref (d 0)), (3, .ref (qo)), (4, .ref (qd))]) hx hb dL_law_1103 hl (by decide) rfl (fun ls hl => ?_)
  refine lv_aload_n hx hb dL_law_1105 rfl (lv_at hl 5 rfl) ?_
  refine k1_V hx hb hml hown hG cs_L_151 (c5_thrown l D cI cZ d t.2.2 (nI t.1)) (by decide) (pzV (hK.sub (tys' := [(cI, .int), (cZ, .boolean)]) [0, 2] rfl) rfl hM.rc hM) rfl hl.1 rfl (Nat.le_of_ble_eq_true rfl) dL_law_1106 ⟨hcap.1, hcap.2⟩ rfl ?_
  refine lv_iload hx hb dL_law_1109 (lv_at hl 1 rfl) ?_
  refine x_cmp_eq (tgt := 1116) hx hb dL_law_1111 (by decide) (by omega) (by omega) (fun zc1 => ?_) (fun zc1 => False.elim (by exact absurd rfl zc1))
  refine lv_iload hx hb dL_law_1116 (lv_at hl 1 rfl) ?_
  refine x_if_ne (tgt := 1133) hx hb dL_law_1118 (by decide) (by omega) (fun c0 => ?_) (fun c0 => ?_)
  · refine lv_goto (tgt := 2880) hx hb dL_law_1133 (by decide) ?_
    exact kk t.2.2 _ _ ls ⟨hiv, hW, ⟨_, hM⟩, ⟨_, hPo⟩, ⟨_, hPd⟩, hS⟩ (lv_sub hl [2, 3, 4, 5, 6, 7] rfl)
  · refine lv_aload_n hx hb dL_law_1121 rfl (lv_at hl 6 rfl) ?_
    refine lv_iconst (v := nI 0) hx hb dL_law_1122 (by decide) ?_
    refine x_lald0 hx hb (hf c0) hK hPo 3 rfl dL_law_1123 ?_
    refine lv_iload hx hb dL_law_1124 (lv_at hl 0 rfl) ?_
    refine lv_i2l (v := Int32.toInt64 t.2.1) hx hb dL_law_1126 rfl ?_
    refine W.lcmp hx hb dL_law_1127 ?_
    refine x_lifo_eq (tgt := 1133) hx hb dL_law_1128 (by decide) (fun zc2 => ?_) (fun zc2 => False.elim (by exact absurd rfl zc2))
    refine lv_goto (tgt := 2880) hx hb dL_law_1133 (by decide) ?_
    exact kk t.2.2 _ _ ls ⟨hiv, hW, ⟨_, hM⟩, ⟨_, hPo⟩, ⟨_, hPd⟩, hS⟩ (lv_sub hl [2, 3, 4, 5, 6, 7] rfl)
set_option maxHeartbeats 4000000 in
set_option maxRecDepth 100000 in
theorem lc_clear {p : Program} {l : Launch} {e : Env} {s : State} {m : MethodId} {below : List Frame} {meth : Method} {c : Code} {b L : Nat} {xs : Nat → Int32} {D : va_G} {cI cC cZ cL cD : ClassId} {ad d ta : Nat → Nat} {qo qd : Nat} {Q : State → Prop} (hst : l.stackTraces = false) (C : LwC p s m c b L xs D cI cC cZ cL cD ad d ta qo qd) {S : St} {N : Nat} {H : Heap} {locs : List Loc} {cells slots j : Nat} {ls : Array Slot} (I : LwI D cI cC cZ cL cD ad d qo qd s S N H locs) (hj : 5 * j + 5 ≤ L) (hN : N + 2000 < 2 ^ 31) (hcap : cells + 1 ≤ room_1.cells ∧ slots + 6 ≤ room_1.slots) (hl : lv_has ls 10 [(5, .int (nI (5 * j))), (0, .ref (b)), (1, .ref (ad 0)), (2, .ref (d 0)), (3, .ref (qo)), (4, .ref (qd))]) (kk : ∀ (S1 : St) (H1 : Heap) (locs1 : List Loc) (ls1 : Array Slot), LwI D cI cC cZ cL cD ad d qo qd s S1 (N + 2000) H1 locs1 → lv_has ls1 10 [(5, .int (nI (5 * j))), (0, .ref (b)), (1, .ref (ad 0)), (2, .ref (d 0)), (3, .ref (qo)), (4, .ref (qd))] → W p l e room_1 s m #[Value.ref b] below meth c H1 locs1 (cells + 1) (slots + 6) Q (F0 m 2880 ls1 [])) : W p l e room_1 s m #[Value.ref b] below meth c H locs cells slots Q (F0 m 1136 ls []) := by
  obtain ⟨hx, hb, hml, hown, hG, hK, hE, hT, hZ, hX2, hX, hbl, hL, hap, hapd, hza, hzd, hzo, hzd2, hda, hqo, hqd, hdo, hdd, hne, had⟩ := C
  obtain ⟨hI, hW, ⟨th, hM⟩, ⟨fo, hPo⟩, ⟨gd, hPd⟩, hS⟩ := I
  have hb : c.code = cL_law := hb
  have hwr := fun (f : Nat → Int64) => wr_clear l hst D cI cC cL ad ta s.heap.size S N qo f (xs (5 * j + 1)) hI hN hap hqo
  have hmd := fun (th : Int32) => m_clear l D cI cZ d S th (xs (5 * j + 1)) hI hapd
  have hcd := cd_clear S (xs (5 * j + 1))
  have hiv := inv_clear (xs (5 * j + 1)) hI
  generalize sp_clear S (xs (5 * j + 1)) = t at hwr hmd hcd hiv
  have hc9 : t.1 ≤ 3 := by
    rcases hcd with h | h
    · omega
    · have h9 := h.1
      omega
  refine lv_aload_n hx hb dL_law_1136 rfl (lv_at hl 2 rfl) ?_
  refine lv_aload_n hx hb dL_law_1137 rfl (lv_at hl 1 rfl) ?_
  refine lv_iload hx hb dL_law_1138 (lv_at hl 0 rfl) ?_
  refine lv_iconst (v := nI 1) hx hb dL_law_1140 (by decide) ?_
  refine x_iadd (v := nI ((5 * j) + 1)) hx hb dL_law_1141 (nI_add _ _) ?_
  refine x_sld hx hb hX hbl (fun z9 => absurd hbl (Nat.not_lt.mpr z9)) hS (i := (5 * j) + 1) (by omega) (by omega) dL_law_1142 ?_
  refine lv_aload_n hx hb dL_law_1143 rfl (lv_at hl 4 rfl) ?_
  refine k2_SW hx hb hml hown hG csw_L_190 (hwr fo) (by decide) (pzwS (hK.sub (tys' := [(cI, .int), (cC, .char), (cL, .long)]) [0, 1, 3] rfl) hE hT hZ hX2 hS.2.1 ⟨hW, hPo⟩) rfl hl.1 rfl (Nat.le_of_ble_eq_true rfl) dL_law_1144 hcap rfl hS (fun q z9 => z9.elim (fun ⟨i, hi, e9⟩ => e9 ▸ hza i hi) (fun e9 => e9 ▸ hzo)) (fun H locs hB9 hz hk hS => ?_)
  obtain ⟨hW, f9, hPo, hf⟩ := hB9
  have hM := hM.kept (fun i hi => hk _ (hM.lt hi) (fun z9 => z9.elim (hda i hi) (fun e9 => hdo ⟨i, hi, e9.symm⟩)))
  have hPd := oneK hPd (hk qd (va_lt hPd (k := 0) rfl) (fun z9 => z9.elim hqd (fun e9 => hne e9.symm)))
  refine lv_istore (lv' := [(6, .int (nI (t.1))), (5, .int (nI (5 * j))), (0, .ref (b)), (1, .ref (ad 0)), (2, .ref (d 0)), (3, .ref (qo)), (4, .ref (qd))]) hx hb dL_law_1147 hl (by decide) rfl (fun ls hl => ?_)
  refine lv_aload_n hx hb dL_law_1149 rfl (lv_at hl 4 rfl) ?_
  refine lv_aload_n hx hb dL_law_1150 rfl (lv_at hl 2 rfl) ?_
  refine lv_iload hx hb dL_law_1151 (lv_at hl 1 rfl) ?_
  refine lv_iconst (v := nI 1) hx hb dL_law_1153 (by decide) ?_
  refine x_iadd (v := nI ((5 * j) + 1)) hx hb dL_law_1154 (nI_add _ _) ?_
  refine x_sld hx hb hX hbl (fun z9 => absurd hbl (Nat.not_lt.mpr z9)) hS (i := (5 * j) + 1) (by omega) (by omega) dL_law_1155 ?_
  refine k2_V hx hb hml hown hG cs_L_192 (hmd th) (by decide) (pzV (hK.sub (tys' := [(cI, .int), (cZ, .boolean)]) [0, 2] rfl) rfl hM.rc hM) rfl hl.1 rfl (Nat.le_of_ble_eq_true rfl) dL_law_1156 ⟨hcap.1, hcap.2⟩ rfl hS (fun q ⟨i, hi, e9⟩ => e9 ▸ hzd i hi) (fun H locs hM hz hk hS => ?_)
  have hW := hW.kept (fun i hi => hk _ (hW.lt hi) (had i hi))
  have hPo := oneK hPo (hk qo (va_lt hPo (k := 0) rfl) hdo)
  have hPd := oneK hPd (hk qd (va_lt hPd (k := 0) rfl) hdd)
  refine lv_istore (lv' := [(7, .int (t.2.1)), (6, .int (nI (t.1))), (5, .int (nI (5 * j))), (0, .ref (b)), (1, .ref (ad 0)), (2, .ref (d 0)), (3, .ref (qo)), (4, .ref (qd))]) hx hb dL_law_1159 hl (by decide) rfl (fun ls hl => ?_)
  refine lv_aload_n hx hb dL_law_1161 rfl (lv_at hl 5 rfl) ?_
  refine k1_V hx hb hml hown hG cs_L_151 (c5_thrown l D cI cZ d t.2.2 (nI t.1)) (by decide) (pzV (hK.sub (tys' := [(cI, .int), (cZ, .boolean)]) [0, 2] rfl) rfl hM.rc hM) rfl hl.1 rfl (Nat.le_of_ble_eq_true rfl) dL_law_1162 ⟨hcap.1, hcap.2⟩ rfl ?_
  refine lv_iload hx hb dL_law_1165 (lv_at hl 1 rfl) ?_
  refine x_cmp_eq (tgt := 1172) hx hb dL_law_1167 (by decide) (by omega) (by omega) (fun zc1 => ?_) (fun zc1 => False.elim (by exact absurd rfl zc1))
  refine lv_iload hx hb dL_law_1172 (lv_at hl 1 rfl) ?_
  refine x_if_ne (tgt := 1189) hx hb dL_law_1174 (by decide) (by omega) (fun c0 => ?_) (fun c0 => ?_)
  · refine lv_goto (tgt := 2880) hx hb dL_law_1189 (by decide) ?_
    exact kk t.2.2 _ _ ls ⟨hiv, hW, ⟨_, hM⟩, ⟨_, hPo⟩, ⟨_, hPd⟩, hS⟩ (lv_sub hl [2, 3, 4, 5, 6, 7] rfl)
  · refine lv_aload_n hx hb dL_law_1177 rfl (lv_at hl 6 rfl) ?_
    refine lv_iconst (v := nI 0) hx hb dL_law_1178 (by decide) ?_
    refine x_lald0 hx hb (hf c0) hK hPo 3 rfl dL_law_1179 ?_
    refine lv_iload hx hb dL_law_1180 (lv_at hl 0 rfl) ?_
    refine lv_i2l (v := Int32.toInt64 t.2.1) hx hb dL_law_1182 rfl ?_
    refine W.lcmp hx hb dL_law_1183 ?_
    refine x_lifo_eq (tgt := 1189) hx hb dL_law_1184 (by decide) (fun zc2 => ?_) (fun zc2 => False.elim (by exact absurd rfl zc2))
    refine lv_goto (tgt := 2880) hx hb dL_law_1189 (by decide) ?_
    exact kk t.2.2 _ _ ls ⟨hiv, hW, ⟨_, hM⟩, ⟨_, hPo⟩, ⟨_, hPd⟩, hS⟩ (lv_sub hl [2, 3, 4, 5, 6, 7] rfl)
set_option maxHeartbeats 4000000 in
set_option maxRecDepth 100000 in
theorem lc_offer {p : Program} {l : Launch} {e : Env} {s : State} {m : MethodId} {below : List Frame} {meth : Method} {c : Code} {b L : Nat} {xs : Nat → Int32} {D : va_G} {cI cC cZ cL cD : ClassId} {ad d ta : Nat → Nat} {qo qd : Nat} {Q : State → Prop} (hst : l.stackTraces = false) (C : LwC p s m c b L xs D cI cC cZ cL cD ad d ta qo qd) {S : St} {N : Nat} {H : Heap} {locs : List Loc} {cells slots j : Nat} {ls : Array Slot} (I : LwI D cI cC cZ cL cD ad d qo qd s S N H locs) (hj : 5 * j + 5 ≤ L) (hN : N + 2000 < 2 ^ 31) (hcap : cells + 1 ≤ room_1.cells ∧ slots + 6 ≤ room_1.slots) (hl : lv_has ls 10 [(5, .int (nI (5 * j))), (0, .ref (b)), (1, .ref (ad 0)), (2, .ref (d 0)), (3, .ref (qo)), (4, .ref (qd))]) (kk : ∀ (S1 : St) (H1 : Heap) (locs1 : List Loc) (ls1 : Array Slot), LwI D cI cC cZ cL cD ad d qo qd s S1 (N + 2000) H1 locs1 → lv_has ls1 10 [(5, .int (nI (5 * j))), (0, .ref (b)), (1, .ref (ad 0)), (2, .ref (d 0)), (3, .ref (qo)), (4, .ref (qd))] → W p l e room_1 s m #[Value.ref b] below meth c H1 locs1 (cells + 1) (slots + 6) Q (F0 m 2880 ls1 [])) : W p l e room_1 s m #[Value.ref b] below meth c H locs cells slots Q (F0 m 1192 ls []) := by
  obtain ⟨hx, hb, hml, hown, hG, hK, hE, hT, hZ, hX2, hX, hbl, hL, hap, hapd, hza, hzd, hzo, hzd2, hda, hqo, hqd, hdo, hdd, hne, had⟩ := C
  obtain ⟨hI, hW, ⟨th, hM⟩, ⟨fo, hPo⟩, ⟨gd, hPd⟩, hS⟩ := I
  have hb : c.code = cL_law := hb
  have hwr := fun (f : Nat → Int64) => wr_offer l hst D cI cC cL ad ta s.heap.size S N qo f (xs (5 * j + 1)) hI hN hap hqo
  have hmd := fun (th : Int32) => m_offer l D cI cZ d S th (xs (5 * j + 1)) hI hapd
  have hcd := cd_offer S (xs (5 * j + 1))
  have hiv := inv_offer (xs (5 * j + 1)) hI
  generalize sp_offer S (xs (5 * j + 1)) = t at hwr hmd hcd hiv
  have hc9 : t.1 ≤ 3 := by
    rcases hcd with h | h
    · omega
    · have h9 := h.1
      omega
  refine lv_aload_n hx hb dL_law_1192 rfl (lv_at hl 2 rfl) ?_
  refine lv_aload_n hx hb dL_law_1193 rfl (lv_at hl 1 rfl) ?_
  refine lv_iload hx hb dL_law_1194 (lv_at hl 0 rfl) ?_
  refine lv_iconst (v := nI 1) hx hb dL_law_1196 (by decide) ?_
  refine x_iadd (v := nI ((5 * j) + 1)) hx hb dL_law_1197 (nI_add _ _) ?_
  refine x_sld hx hb hX hbl (fun z9 => absurd hbl (Nat.not_lt.mpr z9)) hS (i := (5 * j) + 1) (by omega) (by omega) dL_law_1198 ?_
  refine lv_aload_n hx hb dL_law_1199 rfl (lv_at hl 4 rfl) ?_
  refine k2_SW hx hb hml hown hG csw_L_193 (hwr fo) (by decide) (pzwS (hK.sub (tys' := [(cI, .int), (cC, .char), (cL, .long)]) [0, 1, 3] rfl) hE hT hZ hX2 hS.2.1 ⟨hW, hPo⟩) rfl hl.1 rfl (Nat.le_of_ble_eq_true rfl) dL_law_1200 hcap rfl hS (fun q z9 => z9.elim (fun ⟨i, hi, e9⟩ => e9 ▸ hza i hi) (fun e9 => e9 ▸ hzo)) (fun H locs hB9 hz hk hS => ?_)
  obtain ⟨hW, f9, hPo, hf⟩ := hB9
  have hM := hM.kept (fun i hi => hk _ (hM.lt hi) (fun z9 => z9.elim (hda i hi) (fun e9 => hdo ⟨i, hi, e9.symm⟩)))
  have hPd := oneK hPd (hk qd (va_lt hPd (k := 0) rfl) (fun z9 => z9.elim hqd (fun e9 => hne e9.symm)))
  refine lv_istore (lv' := [(6, .int (nI (t.1))), (5, .int (nI (5 * j))), (0, .ref (b)), (1, .ref (ad 0)), (2, .ref (d 0)), (3, .ref (qo)), (4, .ref (qd))]) hx hb dL_law_1203 hl (by decide) rfl (fun ls hl => ?_)
  refine lv_aload_n hx hb dL_law_1205 rfl (lv_at hl 4 rfl) ?_
  refine lv_aload_n hx hb dL_law_1206 rfl (lv_at hl 2 rfl) ?_
  refine lv_iload hx hb dL_law_1207 (lv_at hl 1 rfl) ?_
  refine lv_iconst (v := nI 1) hx hb dL_law_1209 (by decide) ?_
  refine x_iadd (v := nI ((5 * j) + 1)) hx hb dL_law_1210 (nI_add _ _) ?_
  refine x_sld hx hb hX hbl (fun z9 => absurd hbl (Nat.not_lt.mpr z9)) hS (i := (5 * j) + 1) (by omega) (by omega) dL_law_1211 ?_
  refine k2_V hx hb hml hown hG cs_L_195 (hmd th) (by decide) (pzV (hK.sub (tys' := [(cI, .int), (cZ, .boolean)]) [0, 2] rfl) rfl hM.rc hM) rfl hl.1 rfl (Nat.le_of_ble_eq_true rfl) dL_law_1212 ⟨hcap.1, hcap.2⟩ rfl hS (fun q ⟨i, hi, e9⟩ => e9 ▸ hzd i hi) (fun H locs hM hz hk hS => ?_)
  have hW := hW.kept (fun i hi => hk _ (hW.lt hi) (had i hi))
  have hPo := oneK hPo (hk qo (va_lt hPo (k := 0) rfl) hdo)
  have hPd := oneK hPd (hk qd (va_lt hPd (k := 0) rfl) hdd)
  refine lv_istore (lv' := [(7, .int (bI (t.2.1))), (6, .int (nI (t.1))), (5, .int (nI (5 * j))), (0, .ref (b)), (1, .ref (ad 0)), (2, .ref (d 0)), (3, .ref (qo)), (4, .ref (qd))]) hx hb dL_law_1215 hl (by decide) rfl (fun ls hl => ?_)
  refine lv_aload_n hx hb dL_law_1217 rfl (lv_at hl 5 rfl) ?_
  refine k1_V hx hb hml hown hG cs_L_151 (c5_thrown l D cI cZ d t.2.2 (nI t.1)) (by decide) (pzV (hK.sub (tys' := [(cI, .int), (cZ, .boolean)]) [0, 2] rfl) rfl hM.rc hM) rfl hl.1 rfl (Nat.le_of_ble_eq_true rfl) dL_law_1218 ⟨hcap.1, hcap.2⟩ rfl ?_
  refine lv_iload hx hb dL_law_1221 (lv_at hl 1 rfl) ?_
  refine x_cmp_eq (tgt := 1228) hx hb dL_law_1223 (by decide) (by omega) (by omega) (fun zc1 => ?_) (fun zc1 => False.elim (by exact absurd rfl zc1))
  refine lv_iload hx hb dL_law_1228 (lv_at hl 1 rfl) ?_
  refine x_if_ne (tgt := 1252) hx hb dL_law_1230 (by decide) (by omega) (fun c0 => ?_) (fun c0 => ?_)
  · refine lv_goto (tgt := 2880) hx hb dL_law_1252 (by decide) ?_
    exact kk t.2.2 _ _ ls ⟨hiv, hW, ⟨_, hM⟩, ⟨_, hPo⟩, ⟨_, hPd⟩, hS⟩ (lv_sub hl [2, 3, 4, 5, 6, 7] rfl)
  · refine lv_aload_n hx hb dL_law_1233 rfl (lv_at hl 6 rfl) ?_
    refine lv_iconst (v := nI 0) hx hb dL_law_1234 (by decide) ?_
    refine x_lald0 hx hb (hf c0) hK hPo 3 rfl dL_law_1235 ?_
    refine lv_iload hx hb dL_law_1236 (lv_at hl 0 rfl) ?_
    refine x_ifb_eq (tgt := 1245) hx hb dL_law_1238 (by decide) (fun c1 => ?_) (fun c1 => ?_)
    · refine lv_lconst (v := lN (0)) hx hb dL_law_1245 (by decide) ?_
      refine W.lcmp hx hb dL_law_1246 ?_
      refine x_lifo_eq (tgt := 1252) hx hb dL_law_1247 (by decide) (fun zc2 => ?_) (fun zc2 => False.elim (by exact absurd (by rw [c1]; rfl) zc2))
      refine lv_goto (tgt := 2880) hx hb dL_law_1252 (by decide) ?_
      exact kk t.2.2 _ _ ls ⟨hiv, hW, ⟨_, hM⟩, ⟨_, hPo⟩, ⟨_, hPd⟩, hS⟩ (lv_sub hl [2, 3, 4, 5, 6, 7] rfl)
    · refine lv_lconst (v := lN (1)) hx hb dL_law_1241 (by decide) ?_
      refine lv_goto (tgt := 1246) hx hb dL_law_1242 (by decide) ?_
      refine W.lcmp hx hb dL_law_1246 ?_
      refine x_lifo_eq (tgt := 1252) hx hb dL_law_1247 (by decide) (fun zc3 => ?_) (fun zc3 => False.elim (by exact absurd (by rw [c1]; rfl) zc3))
      refine lv_goto (tgt := 2880) hx hb dL_law_1252 (by decide) ?_
      exact kk t.2.2 _ _ ls ⟨hiv, hW, ⟨_, hM⟩, ⟨_, hPo⟩, ⟨_, hPd⟩, hS⟩ (lv_sub hl [2, 3, 4, 5, 6, 7] rfl)
set_option maxHeartbeats 4000000 in
set_option maxRecDepth 100000 in
theorem lc_poll {p : Program} {l : Launch} {e : Env} {s : State} {m : MethodId} {below : List Frame} {meth : Method} {c : Code} {b L : Nat} {xs : Nat → Int32} {D : va_G} {cI cC cZ cL cD : ClassId} {ad d ta : Nat → Nat} {qo qd : Nat} {Q : State → Prop} (hst : l.stackTraces = false) (C : LwC p s m c b L xs D cI cC cZ cL cD ad d ta qo qd) {S : St} {N : Nat} {H : Heap} {locs : List Loc} {cells slots j : Nat} {ls : Array Slot} (I : LwI D cI cC cZ cL cD ad d qo qd s S N H locs) (hj : 5 * j + 5 ≤ L) (hN : N + 2000 < 2 ^ 31) (hcap : cells + 1 ≤ room_1.cells ∧ slots + 6 ≤ room_1.slots) (hl : lv_has ls 10 [(5, .int (nI (5 * j))), (0, .ref (b)), (1, .ref (ad 0)), (2, .ref (d 0)), (3, .ref (qo)), (4, .ref (qd))]) (kk : ∀ (S1 : St) (H1 : Heap) (locs1 : List Loc) (ls1 : Array Slot), LwI D cI cC cZ cL cD ad d qo qd s S1 (N + 2000) H1 locs1 → lv_has ls1 10 [(5, .int (nI (5 * j))), (0, .ref (b)), (1, .ref (ad 0)), (2, .ref (d 0)), (3, .ref (qo)), (4, .ref (qd))] → W p l e room_1 s m #[Value.ref b] below meth c H1 locs1 (cells + 1) (slots + 6) Q (F0 m 2880 ls1 [])) : W p l e room_1 s m #[Value.ref b] below meth c H locs cells slots Q (F0 m 1255 ls []) := by
  obtain ⟨hx, hb, hml, hown, hG, hK, hE, hT, hZ, hX2, hX, hbl, hL, hap, hapd, hza, hzd, hzo, hzd2, hda, hqo, hqd, hdo, hdd, hne, had⟩ := C
  obtain ⟨hI, hW, ⟨th, hM⟩, ⟨fo, hPo⟩, ⟨gd, hPd⟩, hS⟩ := I
  have hb : c.code = cL_law := hb
  have hwr := fun (f : Nat → Int64) => wr_poll l hst D cI cC cL ad ta s.heap.size S N qo f hI hN hap hqo
  have hmd := fun (th : Int32) => m_poll l D cI cZ d S th hI hapd
  have hcd := cd_poll S
  have hiv := inv_poll hI
  generalize sp_poll S = t at hwr hmd hcd hiv
  have hc9 : t.1 ≤ 3 := by
    rcases hcd with h | h
    · omega
    · have h9 := h.1
      omega
  refine lv_aload_n hx hb dL_law_1255 rfl (lv_at hl 2 rfl) ?_
  refine lv_aload_n hx hb dL_law_1256 rfl (lv_at hl 4 rfl) ?_
  refine k2_SW hx hb hml hown hG csw_L_196 (hwr fo) (by decide) (pzwS (hK.sub (tys' := [(cI, .int), (cC, .char), (cL, .long)]) [0, 1, 3] rfl) hE hT hZ hX2 hS.2.1 ⟨hW, hPo⟩) rfl hl.1 rfl (Nat.le_of_ble_eq_true rfl) dL_law_1257 hcap rfl hS (fun q z9 => z9.elim (fun ⟨i, hi, e9⟩ => e9 ▸ hza i hi) (fun e9 => e9 ▸ hzo)) (fun H locs hB9 hz hk hS => ?_)
  obtain ⟨hW, f9, hPo, hf⟩ := hB9
  have hM := hM.kept (fun i hi => hk _ (hM.lt hi) (fun z9 => z9.elim (hda i hi) (fun e9 => hdo ⟨i, hi, e9.symm⟩)))
  have hPd := oneK hPd (hk qd (va_lt hPd (k := 0) rfl) (fun z9 => z9.elim hqd (fun e9 => hne e9.symm)))
  refine lv_istore (lv' := [(6, .int (nI (t.1))), (5, .int (nI (5 * j))), (0, .ref (b)), (1, .ref (ad 0)), (2, .ref (d 0)), (3, .ref (qo)), (4, .ref (qd))]) hx hb dL_law_1260 hl (by decide) rfl (fun ls hl => ?_)
  refine lv_aload_n hx hb dL_law_1262 rfl (lv_at hl 4 rfl) ?_
  refine k2_V hx hb hml hown hG cs_L_199 (hmd th) (by decide) (pzV (hK.sub (tys' := [(cI, .int), (cZ, .boolean)]) [0, 2] rfl) rfl hM.rc hM) rfl hl.1 rfl (Nat.le_of_ble_eq_true rfl) dL_law_1263 ⟨hcap.1, hcap.2⟩ rfl hS (fun q ⟨i, hi, e9⟩ => e9 ▸ hzd i hi) (fun H locs hM hz hk hS => ?_)
  have hW := hW.kept (fun i hi => hk _ (hW.lt hi) (had i hi))
  have hPo := oneK hPo (hk qo (va_lt hPo (k := 0) rfl) hdo)
  have hPd := oneK hPd (hk qd (va_lt hPd (k := 0) rfl) hdd)
  refine lv_istore (lv' := [(7, .int (t.2.1)), (6, .int (nI (t.1))), (5, .int (nI (5 * j))), (0, .ref (b)), (1, .ref (ad 0)), (2, .ref (d 0)), (3, .ref (qo)), (4, .ref (qd))]) hx hb dL_law_1266 hl (by decide) rfl (fun ls hl => ?_)
  refine lv_aload_n hx hb dL_law_1268 rfl (lv_at hl 5 rfl) ?_
  refine k1_V hx hb hml hown hG cs_L_151 (c5_thrown l D cI cZ d t.2.2 (nI t.1)) (by decide) (pzV (hK.sub (tys' := [(cI, .int), (cZ, .boolean)]) [0, 2] rfl) rfl hM.rc hM) rfl hl.1 rfl (Nat.le_of_ble_eq_true rfl) dL_law_1269 ⟨hcap.1, hcap.2⟩ rfl ?_
  refine lv_iload hx hb dL_law_1272 (lv_at hl 1 rfl) ?_
  refine x_cmp_eq (tgt := 1279) hx hb dL_law_1274 (by decide) (by omega) (by omega) (fun zc1 => ?_) (fun zc1 => False.elim (by exact absurd rfl zc1))
  refine lv_iload hx hb dL_law_1279 (lv_at hl 1 rfl) ?_
  refine x_if_ne (tgt := 1296) hx hb dL_law_1281 (by decide) (by omega) (fun c0 => ?_) (fun c0 => ?_)
  · refine lv_goto (tgt := 2880) hx hb dL_law_1296 (by decide) ?_
    exact kk t.2.2 _ _ ls ⟨hiv, hW, ⟨_, hM⟩, ⟨_, hPo⟩, ⟨_, hPd⟩, hS⟩ (lv_sub hl [2, 3, 4, 5, 6, 7] rfl)
  · refine lv_aload_n hx hb dL_law_1284 rfl (lv_at hl 6 rfl) ?_
    refine lv_iconst (v := nI 0) hx hb dL_law_1285 (by decide) ?_
    refine x_lald0 hx hb (hf c0) hK hPo 3 rfl dL_law_1286 ?_
    refine lv_iload hx hb dL_law_1287 (lv_at hl 0 rfl) ?_
    refine lv_i2l (v := Int32.toInt64 t.2.1) hx hb dL_law_1289 rfl ?_
    refine W.lcmp hx hb dL_law_1290 ?_
    refine x_lifo_eq (tgt := 1296) hx hb dL_law_1291 (by decide) (fun zc2 => ?_) (fun zc2 => False.elim (by exact absurd rfl zc2))
    refine lv_goto (tgt := 2880) hx hb dL_law_1296 (by decide) ?_
    exact kk t.2.2 _ _ ls ⟨hiv, hW, ⟨_, hM⟩, ⟨_, hPo⟩, ⟨_, hPd⟩, hS⟩ (lv_sub hl [2, 3, 4, 5, 6, 7] rfl)
set_option maxHeartbeats 4000000 in
set_option maxRecDepth 100000 in
theorem lc_toEnd {p : Program} {l : Launch} {e : Env} {s : State} {m : MethodId} {below : List Frame} {meth : Method} {c : Code} {b L : Nat} {xs : Nat → Int32} {D : va_G} {cI cC cZ cL cD : ClassId} {ad d ta : Nat → Nat} {qo qd : Nat} {Q : State → Prop} (hst : l.stackTraces = false) (C : LwC p s m c b L xs D cI cC cZ cL cD ad d ta qo qd) {S : St} {N : Nat} {H : Heap} {locs : List Loc} {cells slots j : Nat} {ls : Array Slot} (I : LwI D cI cC cZ cL cD ad d qo qd s S N H locs) (hj : 5 * j + 5 ≤ L) (hN : N + 2000 < 2 ^ 31) (hcap : cells + 1 ≤ room_1.cells ∧ slots + 6 ≤ room_1.slots) (hl : lv_has ls 10 [(5, .int (nI (5 * j))), (0, .ref (b)), (1, .ref (ad 0)), (2, .ref (d 0)), (3, .ref (qo)), (4, .ref (qd))]) (kk : ∀ (S1 : St) (H1 : Heap) (locs1 : List Loc) (ls1 : Array Slot), LwI D cI cC cZ cL cD ad d qo qd s S1 (N + 2000) H1 locs1 → lv_has ls1 10 [(5, .int (nI (5 * j))), (0, .ref (b)), (1, .ref (ad 0)), (2, .ref (d 0)), (3, .ref (qo)), (4, .ref (qd))] → W p l e room_1 s m #[Value.ref b] below meth c H1 locs1 (cells + 1) (slots + 6) Q (F0 m 2880 ls1 [])) : W p l e room_1 s m #[Value.ref b] below meth c H locs cells slots Q (F0 m 1299 ls []) := by
  obtain ⟨hx, hb, hml, hown, hG, hK, hE, hT, hZ, hX2, hX, hbl, hL, hap, hapd, hza, hzd, hzo, hzd2, hda, hqo, hqd, hdo, hdd, hne, had⟩ := C
  obtain ⟨hI, hW, ⟨th, hM⟩, ⟨fo, hPo⟩, ⟨gd, hPd⟩, hS⟩ := I
  have hb : c.code = cL_law := hb
  have hwr := fun (f : Nat → Int64) => wr_toEnd l hst D cI cC cL ad ta s.heap.size S N qo f (xs (5 * j + 1)) hI hN hap hqo
  have hmd := fun (th : Int32) => m_toEnd l D cI cZ d S th (xs (5 * j + 1)) hI hapd
  have hcd := cd_toEnd S (xs (5 * j + 1))
  have hiv := inv_toEnd (xs (5 * j + 1)) hI
  generalize sp_toEnd S (xs (5 * j + 1)) = t at hwr hmd hcd hiv
  have hc9 : t.1 ≤ 3 := by
    rcases hcd with h | h
    · omega
    · have h9 := h.1
      omega
  refine lv_aload_n hx hb dL_law_1299 rfl (lv_at hl 2 rfl) ?_
  refine lv_aload_n hx hb dL_law_1300 rfl (lv_at hl 1 rfl) ?_
  refine lv_iload hx hb dL_law_1301 (lv_at hl 0 rfl) ?_
  refine lv_iconst (v := nI 1) hx hb dL_law_1303 (by decide) ?_
  refine x_iadd (v := nI ((5 * j) + 1)) hx hb dL_law_1304 (nI_add _ _) ?_
  refine x_sld hx hb hX hbl (fun z9 => absurd hbl (Nat.not_lt.mpr z9)) hS (i := (5 * j) + 1) (by omega) (by omega) dL_law_1305 ?_
  refine lv_aload_n hx hb dL_law_1306 rfl (lv_at hl 4 rfl) ?_
  refine k2_SW hx hb hml hown hG csw_L_200 (hwr fo) (by decide) (pzwS (hK.sub (tys' := [(cI, .int), (cC, .char), (cL, .long)]) [0, 1, 3] rfl) hE hT hZ hX2 hS.2.1 ⟨hW, hPo⟩) rfl hl.1 rfl (Nat.le_of_ble_eq_true rfl) dL_law_1307 hcap rfl hS (fun q z9 => z9.elim (fun ⟨i, hi, e9⟩ => e9 ▸ hza i hi) (fun e9 => e9 ▸ hzo)) (fun H locs hB9 hz hk hS => ?_)
  obtain ⟨hW, f9, hPo, hf⟩ := hB9
  have hM := hM.kept (fun i hi => hk _ (hM.lt hi) (fun z9 => z9.elim (hda i hi) (fun e9 => hdo ⟨i, hi, e9.symm⟩)))
  have hPd := oneK hPd (hk qd (va_lt hPd (k := 0) rfl) (fun z9 => z9.elim hqd (fun e9 => hne e9.symm)))
  refine lv_istore (lv' := [(6, .int (nI (t.1))), (5, .int (nI (5 * j))), (0, .ref (b)), (1, .ref (ad 0)), (2, .ref (d 0)), (3, .ref (qo)), (4, .ref (qd))]) hx hb dL_law_1310 hl (by decide) rfl (fun ls hl => ?_)
  refine lv_aload_n hx hb dL_law_1312 rfl (lv_at hl 4 rfl) ?_
  refine lv_aload_n hx hb dL_law_1313 rfl (lv_at hl 2 rfl) ?_
  refine lv_iload hx hb dL_law_1314 (lv_at hl 1 rfl) ?_
  refine lv_iconst (v := nI 1) hx hb dL_law_1316 (by decide) ?_
  refine x_iadd (v := nI ((5 * j) + 1)) hx hb dL_law_1317 (nI_add _ _) ?_
  refine x_sld hx hb hX hbl (fun z9 => absurd hbl (Nat.not_lt.mpr z9)) hS (i := (5 * j) + 1) (by omega) (by omega) dL_law_1318 ?_
  refine k2_V hx hb hml hown hG cs_L_202 (hmd th) (by decide) (pzV (hK.sub (tys' := [(cI, .int), (cZ, .boolean)]) [0, 2] rfl) rfl hM.rc hM) rfl hl.1 rfl (Nat.le_of_ble_eq_true rfl) dL_law_1319 ⟨hcap.1, hcap.2⟩ rfl hS (fun q ⟨i, hi, e9⟩ => e9 ▸ hzd i hi) (fun H locs hM hz hk hS => ?_)
  have hW := hW.kept (fun i hi => hk _ (hW.lt hi) (had i hi))
  have hPo := oneK hPo (hk qo (va_lt hPo (k := 0) rfl) hdo)
  have hPd := oneK hPd (hk qd (va_lt hPd (k := 0) rfl) hdd)
  refine lv_istore (lv' := [(7, .int (t.2.1)), (6, .int (nI (t.1))), (5, .int (nI (5 * j))), (0, .ref (b)), (1, .ref (ad 0)), (2, .ref (d 0)), (3, .ref (qo)), (4, .ref (qd))]) hx hb dL_law_1322 hl (by decide) rfl (fun ls hl => ?_)
  refine lv_aload_n hx hb dL_law_1324 rfl (lv_at hl 5 rfl) ?_
  refine k1_V hx hb hml hown hG cs_L_151 (c5_thrown l D cI cZ d t.2.2 (nI t.1)) (by decide) (pzV (hK.sub (tys' := [(cI, .int), (cZ, .boolean)]) [0, 2] rfl) rfl hM.rc hM) rfl hl.1 rfl (Nat.le_of_ble_eq_true rfl) dL_law_1325 ⟨hcap.1, hcap.2⟩ rfl ?_
  refine lv_iload hx hb dL_law_1328 (lv_at hl 1 rfl) ?_
  refine x_cmp_eq (tgt := 1335) hx hb dL_law_1330 (by decide) (by omega) (by omega) (fun zc1 => ?_) (fun zc1 => False.elim (by exact absurd rfl zc1))
  refine lv_iload hx hb dL_law_1335 (lv_at hl 1 rfl) ?_
  refine x_if_ne (tgt := 1352) hx hb dL_law_1337 (by decide) (by omega) (fun c0 => ?_) (fun c0 => ?_)
  · refine lv_goto (tgt := 2880) hx hb dL_law_1352 (by decide) ?_
    exact kk t.2.2 _ _ ls ⟨hiv, hW, ⟨_, hM⟩, ⟨_, hPo⟩, ⟨_, hPd⟩, hS⟩ (lv_sub hl [2, 3, 4, 5, 6, 7] rfl)
  · refine lv_aload_n hx hb dL_law_1340 rfl (lv_at hl 6 rfl) ?_
    refine lv_iconst (v := nI 0) hx hb dL_law_1341 (by decide) ?_
    refine x_lald0 hx hb (hf c0) hK hPo 3 rfl dL_law_1342 ?_
    refine lv_iload hx hb dL_law_1343 (lv_at hl 0 rfl) ?_
    refine lv_i2l (v := Int32.toInt64 t.2.1) hx hb dL_law_1345 rfl ?_
    refine W.lcmp hx hb dL_law_1346 ?_
    refine x_lifo_eq (tgt := 1352) hx hb dL_law_1347 (by decide) (fun zc2 => ?_) (fun zc2 => False.elim (by exact absurd rfl zc2))
    refine lv_goto (tgt := 2880) hx hb dL_law_1352 (by decide) ?_
    exact kk t.2.2 _ _ ls ⟨hiv, hW, ⟨_, hM⟩, ⟨_, hPo⟩, ⟨_, hPd⟩, hS⟩ (lv_sub hl [2, 3, 4, 5, 6, 7] rfl)
set_option maxHeartbeats 4000000 in
set_option maxRecDepth 100000 in
theorem lc_open {p : Program} {l : Launch} {e : Env} {s : State} {m : MethodId} {below : List Frame} {meth : Method} {c : Code} {b L : Nat} {xs : Nat → Int32} {D : va_G} {cI cC cZ cL cD : ClassId} {ad d ta : Nat → Nat} {qo qd : Nat} {Q : State → Prop} (hst : l.stackTraces = false) (C : LwC p s m c b L xs D cI cC cZ cL cD ad d ta qo qd) {S : St} {N : Nat} {H : Heap} {locs : List Loc} {cells slots j : Nat} {ls : Array Slot} (I : LwI D cI cC cZ cL cD ad d qo qd s S N H locs) (hj : 5 * j + 5 ≤ L) (hN : N + 2000 < 2 ^ 31) (hcap : cells + 1 ≤ room_1.cells ∧ slots + 6 ≤ room_1.slots) (hl : lv_has ls 10 [(5, .int (nI (5 * j))), (0, .ref (b)), (1, .ref (ad 0)), (2, .ref (d 0)), (3, .ref (qo)), (4, .ref (qd))]) (kk : ∀ (S1 : St) (H1 : Heap) (locs1 : List Loc) (ls1 : Array Slot), LwI D cI cC cZ cL cD ad d qo qd s S1 (N + 2000) H1 locs1 → lv_has ls1 10 [(5, .int (nI (5 * j))), (0, .ref (b)), (1, .ref (ad 0)), (2, .ref (d 0)), (3, .ref (qo)), (4, .ref (qd))] → W p l e room_1 s m #[Value.ref b] below meth c H1 locs1 (cells + 1) (slots + 6) Q (F0 m 2880 ls1 [])) : W p l e room_1 s m #[Value.ref b] below meth c H locs cells slots Q (F0 m 1355 ls []) := by
  obtain ⟨hx, hb, hml, hown, hG, hK, hE, hT, hZ, hX2, hX, hbl, hL, hap, hapd, hza, hzd, hzo, hzd2, hda, hqo, hqd, hdo, hdd, hne, had⟩ := C
  obtain ⟨hI, hW, ⟨th, hM⟩, ⟨fo, hPo⟩, ⟨gd, hPd⟩, hS⟩ := I
  have hb : c.code = cL_law := hb
  have hwr := fun (f : Nat → Int64) => wr_open l hst D cI cC cL ad ta s.heap.size S N qo f (xs (5 * j + 1)) (xs (5 * j + 2)) (xs (5 * j + 3)) hI hN hap hqo
  have hmd := fun (th : Int32) => m_open l D cI cZ d S th (xs (5 * j + 1)) (xs (5 * j + 2)) (xs (5 * j + 3)) hI hapd
  have hcd := cd_open S (xs (5 * j + 1)) (xs (5 * j + 2)) (xs (5 * j + 3))
  have hiv := inv_open (xs (5 * j + 1)) (xs (5 * j + 2)) (xs (5 * j + 3)) hI
  generalize sp_open S (xs (5 * j + 1)) (xs (5 * j + 2)) (xs (5 * j + 3)) = t at hwr hmd hcd hiv
  have hc9 : t.1 ≤ 3 := by
    rcases hcd with h | h
    · omega
    · have h9 := h.1
      omega
  refine lv_aload_n hx hb dL_law_1355 rfl (lv_at hl 2 rfl) ?_
  refine lv_aload_n hx hb dL_law_1356 rfl (lv_at hl 1 rfl) ?_
  refine lv_iload hx hb dL_law_1357 (lv_at hl 0 rfl) ?_
  refine lv_iconst (v := nI 1) hx hb dL_law_1359 (by decide) ?_
  refine x_iadd (v := nI ((5 * j) + 1)) hx hb dL_law_1360 (nI_add _ _) ?_
  refine x_sld hx hb hX hbl (fun z9 => absurd hbl (Nat.not_lt.mpr z9)) hS (i := (5 * j) + 1) (by omega) (by omega) dL_law_1361 ?_
  refine lv_aload_n hx hb dL_law_1362 rfl (lv_at hl 1 rfl) ?_
  refine lv_iload hx hb dL_law_1363 (lv_at hl 0 rfl) ?_
  refine lv_iconst (v := nI 2) hx hb dL_law_1365 (by decide) ?_
  refine x_iadd (v := nI ((5 * j) + 2)) hx hb dL_law_1366 (nI_add _ _) ?_
  refine x_sld hx hb hX hbl (fun z9 => absurd hbl (Nat.not_lt.mpr z9)) hS (i := (5 * j) + 2) (by omega) (by omega) dL_law_1367 ?_
  refine lv_aload_n hx hb dL_law_1368 rfl (lv_at hl 1 rfl) ?_
  refine lv_iload hx hb dL_law_1369 (lv_at hl 0 rfl) ?_
  refine lv_iconst (v := nI 3) hx hb dL_law_1371 (by decide) ?_
  refine x_iadd (v := nI ((5 * j) + 3)) hx hb dL_law_1372 (nI_add _ _) ?_
  refine x_sld hx hb hX hbl (fun z9 => absurd hbl (Nat.not_lt.mpr z9)) hS (i := (5 * j) + 3) (by omega) (by omega) dL_law_1373 ?_
  refine lv_aload_n hx hb dL_law_1374 rfl (lv_at hl 4 rfl) ?_
  refine k2_SW hx hb hml hown hG csw_L_203 (hwr fo) (by decide) (pzwS (hK.sub (tys' := [(cI, .int), (cC, .char), (cL, .long)]) [0, 1, 3] rfl) hE hT hZ hX2 hS.2.1 ⟨hW, hPo⟩) rfl hl.1 rfl (Nat.le_of_ble_eq_true rfl) dL_law_1375 hcap rfl hS (fun q z9 => z9.elim (fun ⟨i, hi, e9⟩ => e9 ▸ hza i hi) (fun e9 => e9 ▸ hzo)) (fun H locs hB9 hz hk hS => ?_)
  obtain ⟨hW, f9, hPo, hf⟩ := hB9
  have hM := hM.kept (fun i hi => hk _ (hM.lt hi) (fun z9 => z9.elim (hda i hi) (fun e9 => hdo ⟨i, hi, e9.symm⟩)))
  have hPd := oneK hPd (hk qd (va_lt hPd (k := 0) rfl) (fun z9 => z9.elim hqd (fun e9 => hne e9.symm)))
  refine lv_istore (lv' := [(6, .int (nI (t.1))), (5, .int (nI (5 * j))), (0, .ref (b)), (1, .ref (ad 0)), (2, .ref (d 0)), (3, .ref (qo)), (4, .ref (qd))]) hx hb dL_law_1378 hl (by decide) rfl (fun ls hl => ?_)
  refine lv_aload_n hx hb dL_law_1380 rfl (lv_at hl 4 rfl) ?_
  refine lv_aload_n hx hb dL_law_1381 rfl (lv_at hl 2 rfl) ?_
  refine lv_iload hx hb dL_law_1382 (lv_at hl 1 rfl) ?_
  refine lv_iconst (v := nI 1) hx hb dL_law_1384 (by decide) ?_
  refine x_iadd (v := nI ((5 * j) + 1)) hx hb dL_law_1385 (nI_add _ _) ?_
  refine x_sld hx hb hX hbl (fun z9 => absurd hbl (Nat.not_lt.mpr z9)) hS (i := (5 * j) + 1) (by omega) (by omega) dL_law_1386 ?_
  refine lv_aload_n hx hb dL_law_1387 rfl (lv_at hl 2 rfl) ?_
  refine lv_iload hx hb dL_law_1388 (lv_at hl 1 rfl) ?_
  refine lv_iconst (v := nI 2) hx hb dL_law_1390 (by decide) ?_
  refine x_iadd (v := nI ((5 * j) + 2)) hx hb dL_law_1391 (nI_add _ _) ?_
  refine x_sld hx hb hX hbl (fun z9 => absurd hbl (Nat.not_lt.mpr z9)) hS (i := (5 * j) + 2) (by omega) (by omega) dL_law_1392 ?_
  refine lv_aload_n hx hb dL_law_1393 rfl (lv_at hl 2 rfl) ?_
  refine lv_iload hx hb dL_law_1394 (lv_at hl 1 rfl) ?_
  refine lv_iconst (v := nI 3) hx hb dL_law_1396 (by decide) ?_
  refine x_iadd (v := nI ((5 * j) + 3)) hx hb dL_law_1397 (nI_add _ _) ?_
  refine x_sld hx hb hX hbl (fun z9 => absurd hbl (Nat.not_lt.mpr z9)) hS (i := (5 * j) + 3) (by omega) (by omega) dL_law_1398 ?_
  refine k2_V hx hb hml hown hG cs_L_205 (hmd th) (by decide) (pzV (hK.sub (tys' := [(cI, .int), (cZ, .boolean)]) [0, 2] rfl) rfl hM.rc hM) rfl hl.1 rfl (Nat.le_of_ble_eq_true rfl) dL_law_1399 ⟨hcap.1, hcap.2⟩ rfl hS (fun q ⟨i, hi, e9⟩ => e9 ▸ hzd i hi) (fun H locs hM hz hk hS => ?_)
  have hW := hW.kept (fun i hi => hk _ (hW.lt hi) (had i hi))
  have hPo := oneK hPo (hk qo (va_lt hPo (k := 0) rfl) hdo)
  have hPd := oneK hPd (hk qd (va_lt hPd (k := 0) rfl) hdd)
  refine lv_istore (lv' := [(7, .int (t.2.1)), (6, .int (nI (t.1))), (5, .int (nI (5 * j))), (0, .ref (b)), (1, .ref (ad 0)), (2, .ref (d 0)), (3, .ref (qo)), (4, .ref (qd))]) hx hb dL_law_1402 hl (by decide) rfl (fun ls hl => ?_)
  refine lv_aload_n hx hb dL_law_1404 rfl (lv_at hl 5 rfl) ?_
  refine k1_V hx hb hml hown hG cs_L_151 (c5_thrown l D cI cZ d t.2.2 (nI t.1)) (by decide) (pzV (hK.sub (tys' := [(cI, .int), (cZ, .boolean)]) [0, 2] rfl) rfl hM.rc hM) rfl hl.1 rfl (Nat.le_of_ble_eq_true rfl) dL_law_1405 ⟨hcap.1, hcap.2⟩ rfl ?_
  refine lv_iload hx hb dL_law_1408 (lv_at hl 1 rfl) ?_
  refine x_cmp_eq (tgt := 1415) hx hb dL_law_1410 (by decide) (by omega) (by omega) (fun zc1 => ?_) (fun zc1 => False.elim (by exact absurd rfl zc1))
  refine lv_iload hx hb dL_law_1415 (lv_at hl 1 rfl) ?_
  refine x_if_ne (tgt := 1432) hx hb dL_law_1417 (by decide) (by omega) (fun c0 => ?_) (fun c0 => ?_)
  · refine lv_goto (tgt := 2880) hx hb dL_law_1432 (by decide) ?_
    exact kk t.2.2 _ _ ls ⟨hiv, hW, ⟨_, hM⟩, ⟨_, hPo⟩, ⟨_, hPd⟩, hS⟩ (lv_sub hl [2, 3, 4, 5, 6, 7] rfl)
  · refine lv_aload_n hx hb dL_law_1420 rfl (lv_at hl 6 rfl) ?_
    refine lv_iconst (v := nI 0) hx hb dL_law_1421 (by decide) ?_
    refine x_lald0 hx hb (hf c0) hK hPo 3 rfl dL_law_1422 ?_
    refine lv_iload hx hb dL_law_1423 (lv_at hl 0 rfl) ?_
    refine lv_i2l (v := Int32.toInt64 t.2.1) hx hb dL_law_1425 rfl ?_
    refine W.lcmp hx hb dL_law_1426 ?_
    refine x_lifo_eq (tgt := 1432) hx hb dL_law_1427 (by decide) (fun zc2 => ?_) (fun zc2 => False.elim (by exact absurd rfl zc2))
    refine lv_goto (tgt := 2880) hx hb dL_law_1432 (by decide) ?_
    exact kk t.2.2 _ _ ls ⟨hiv, hW, ⟨_, hM⟩, ⟨_, hPo⟩, ⟨_, hPd⟩, hS⟩ (lv_sub hl [2, 3, 4, 5, 6, 7] rfl)
set_option maxHeartbeats 4000000 in
set_option maxRecDepth 100000 in
theorem lc_hasNext {p : Program} {l : Launch} {e : Env} {s : State} {m : MethodId} {below : List Frame} {meth : Method} {c : Code} {b L : Nat} {xs : Nat → Int32} {D : va_G} {cI cC cZ cL cD : ClassId} {ad d ta : Nat → Nat} {qo qd : Nat} {Q : State → Prop} (hst : l.stackTraces = false) (C : LwC p s m c b L xs D cI cC cZ cL cD ad d ta qo qd) {S : St} {N : Nat} {H : Heap} {locs : List Loc} {cells slots j : Nat} {ls : Array Slot} (I : LwI D cI cC cZ cL cD ad d qo qd s S N H locs) (hj : 5 * j + 5 ≤ L) (hN : N + 2000 < 2 ^ 31) (hcap : cells + 1 ≤ room_1.cells ∧ slots + 6 ≤ room_1.slots) (hl : lv_has ls 10 [(5, .int (nI (5 * j))), (0, .ref (b)), (1, .ref (ad 0)), (2, .ref (d 0)), (3, .ref (qo)), (4, .ref (qd))]) (kk : ∀ (S1 : St) (H1 : Heap) (locs1 : List Loc) (ls1 : Array Slot), LwI D cI cC cZ cL cD ad d qo qd s S1 (N + 2000) H1 locs1 → lv_has ls1 10 [(5, .int (nI (5 * j))), (0, .ref (b)), (1, .ref (ad 0)), (2, .ref (d 0)), (3, .ref (qo)), (4, .ref (qd))] → W p l e room_1 s m #[Value.ref b] below meth c H1 locs1 (cells + 1) (slots + 6) Q (F0 m 2880 ls1 [])) : W p l e room_1 s m #[Value.ref b] below meth c H locs cells slots Q (F0 m 1435 ls []) := by
  obtain ⟨hx, hb, hml, hown, hG, hK, hE, hT, hZ, hX2, hX, hbl, hL, hap, hapd, hza, hzd, hzo, hzd2, hda, hqo, hqd, hdo, hdd, hne, had⟩ := C
  obtain ⟨hI, hW, ⟨th, hM⟩, ⟨fo, hPo⟩, ⟨gd, hPd⟩, hS⟩ := I
  have hb : c.code = cL_law := hb
  have hwr := fun (f : Nat → Int64) => wr_hasNext l hst D cI cC cL ad ta s.heap.size S N qo f (xs (5 * j + 1)) hI hN hap hqo
  have hmd := fun (th : Int32) => m_hasNext l D cI cZ d S th (xs (5 * j + 1)) hI hapd
  have hcd := cd_hasNext S (xs (5 * j + 1))
  have hiv : Inv (sp_hasNext S (xs (5 * j + 1))).2.2 := by rw [st_hasNext]; exact hI
  generalize sp_hasNext S (xs (5 * j + 1)) = t at hwr hmd hcd hiv
  have hc9 : t.1 ≤ 3 := by
    rcases hcd with h | h
    · omega
    · have h9 := h.1
      omega
  refine lv_aload_n hx hb dL_law_1435 rfl (lv_at hl 2 rfl) ?_
  refine lv_aload_n hx hb dL_law_1436 rfl (lv_at hl 1 rfl) ?_
  refine lv_iload hx hb dL_law_1437 (lv_at hl 0 rfl) ?_
  refine lv_iconst (v := nI 1) hx hb dL_law_1439 (by decide) ?_
  refine x_iadd (v := nI ((5 * j) + 1)) hx hb dL_law_1440 (nI_add _ _) ?_
  refine x_sld hx hb hX hbl (fun z9 => absurd hbl (Nat.not_lt.mpr z9)) hS (i := (5 * j) + 1) (by omega) (by omega) dL_law_1441 ?_
  refine lv_aload_n hx hb dL_law_1442 rfl (lv_at hl 4 rfl) ?_
  refine k2_SW hx hb hml hown hG csw_L_206 (hwr fo) (by decide) (pzwS (hK.sub (tys' := [(cI, .int), (cC, .char), (cL, .long)]) [0, 1, 3] rfl) hE hT hZ hX2 hS.2.1 ⟨hW, hPo⟩) rfl hl.1 rfl (Nat.le_of_ble_eq_true rfl) dL_law_1443 hcap rfl hS (fun q z9 => z9.elim (fun ⟨i, hi, e9⟩ => e9 ▸ hza i hi) (fun e9 => e9 ▸ hzo)) (fun H locs hB9 hz hk hS => ?_)
  obtain ⟨hW, f9, hPo, hf⟩ := hB9
  have hM := hM.kept (fun i hi => hk _ (hM.lt hi) (fun z9 => z9.elim (hda i hi) (fun e9 => hdo ⟨i, hi, e9.symm⟩)))
  have hPd := oneK hPd (hk qd (va_lt hPd (k := 0) rfl) (fun z9 => z9.elim hqd (fun e9 => hne e9.symm)))
  refine lv_istore (lv' := [(6, .int (nI (t.1))), (5, .int (nI (5 * j))), (0, .ref (b)), (1, .ref (ad 0)), (2, .ref (d 0)), (3, .ref (qo)), (4, .ref (qd))]) hx hb dL_law_1446 hl (by decide) rfl (fun ls hl => ?_)
  refine lv_aload_n hx hb dL_law_1448 rfl (lv_at hl 4 rfl) ?_
  refine lv_aload_n hx hb dL_law_1449 rfl (lv_at hl 2 rfl) ?_
  refine lv_iload hx hb dL_law_1450 (lv_at hl 1 rfl) ?_
  refine lv_iconst (v := nI 1) hx hb dL_law_1452 (by decide) ?_
  refine x_iadd (v := nI ((5 * j) + 1)) hx hb dL_law_1453 (nI_add _ _) ?_
  refine x_sld hx hb hX hbl (fun z9 => absurd hbl (Nat.not_lt.mpr z9)) hS (i := (5 * j) + 1) (by omega) (by omega) dL_law_1454 ?_
  refine k2_V hx hb hml hown hG cs_L_208 (hmd th) (by decide) (pzV (hK.sub (tys' := [(cI, .int), (cZ, .boolean)]) [0, 2] rfl) rfl hM.rc hM) rfl hl.1 rfl (Nat.le_of_ble_eq_true rfl) dL_law_1455 ⟨hcap.1, hcap.2⟩ rfl hS (fun q ⟨i, hi, e9⟩ => e9 ▸ hzd i hi) (fun H locs hM hz hk hS => ?_)
  have hW := hW.kept (fun i hi => hk _ (hW.lt hi) (had i hi))
  have hPo := oneK hPo (hk qo (va_lt hPo (k := 0) rfl) hdo)
  have hPd := oneK hPd (hk qd (va_lt hPd (k := 0) rfl) hdd)
  refine lv_istore (lv' := [(7, .int (bI (t.2.1))), (6, .int (nI (t.1))), (5, .int (nI (5 * j))), (0, .ref (b)), (1, .ref (ad 0)), (2, .ref (d 0)), (3, .ref (qo)), (4, .ref (qd))]) hx hb dL_law_1458 hl (by decide) rfl (fun ls hl => ?_)
  refine lv_aload_n hx hb dL_law_1460 rfl (lv_at hl 5 rfl) ?_
  refine k1_V hx hb hml hown hG cs_L_151 (c5_thrown l D cI cZ d t.2.2 (nI t.1)) (by decide) (pzV (hK.sub (tys' := [(cI, .int), (cZ, .boolean)]) [0, 2] rfl) rfl hM.rc hM) rfl hl.1 rfl (Nat.le_of_ble_eq_true rfl) dL_law_1461 ⟨hcap.1, hcap.2⟩ rfl ?_
  refine lv_iload hx hb dL_law_1464 (lv_at hl 1 rfl) ?_
  refine x_cmp_eq (tgt := 1471) hx hb dL_law_1466 (by decide) (by omega) (by omega) (fun zc1 => ?_) (fun zc1 => False.elim (by exact absurd rfl zc1))
  refine lv_iload hx hb dL_law_1471 (lv_at hl 1 rfl) ?_
  refine x_if_ne (tgt := 1495) hx hb dL_law_1473 (by decide) (by omega) (fun c0 => ?_) (fun c0 => ?_)
  · refine lv_goto (tgt := 2880) hx hb dL_law_1495 (by decide) ?_
    exact kk t.2.2 _ _ ls ⟨hiv, hW, ⟨_, hM⟩, ⟨_, hPo⟩, ⟨_, hPd⟩, hS⟩ (lv_sub hl [2, 3, 4, 5, 6, 7] rfl)
  · refine lv_aload_n hx hb dL_law_1476 rfl (lv_at hl 6 rfl) ?_
    refine lv_iconst (v := nI 0) hx hb dL_law_1477 (by decide) ?_
    refine x_lald0 hx hb (hf c0) hK hPo 3 rfl dL_law_1478 ?_
    refine lv_iload hx hb dL_law_1479 (lv_at hl 0 rfl) ?_
    refine x_ifb_eq (tgt := 1488) hx hb dL_law_1481 (by decide) (fun c1 => ?_) (fun c1 => ?_)
    · refine lv_lconst (v := lN (0)) hx hb dL_law_1488 (by decide) ?_
      refine W.lcmp hx hb dL_law_1489 ?_
      refine x_lifo_eq (tgt := 1495) hx hb dL_law_1490 (by decide) (fun zc2 => ?_) (fun zc2 => False.elim (by exact absurd (by rw [c1]; rfl) zc2))
      refine lv_goto (tgt := 2880) hx hb dL_law_1495 (by decide) ?_
      exact kk t.2.2 _ _ ls ⟨hiv, hW, ⟨_, hM⟩, ⟨_, hPo⟩, ⟨_, hPd⟩, hS⟩ (lv_sub hl [2, 3, 4, 5, 6, 7] rfl)
    · refine lv_lconst (v := lN (1)) hx hb dL_law_1484 (by decide) ?_
      refine lv_goto (tgt := 1489) hx hb dL_law_1485 (by decide) ?_
      refine W.lcmp hx hb dL_law_1489 ?_
      refine x_lifo_eq (tgt := 1495) hx hb dL_law_1490 (by decide) (fun zc3 => ?_) (fun zc3 => False.elim (by exact absurd (by rw [c1]; rfl) zc3))
      refine lv_goto (tgt := 2880) hx hb dL_law_1495 (by decide) ?_
      exact kk t.2.2 _ _ ls ⟨hiv, hW, ⟨_, hM⟩, ⟨_, hPo⟩, ⟨_, hPd⟩, hS⟩ (lv_sub hl [2, 3, 4, 5, 6, 7] rfl)
set_option maxHeartbeats 4000000 in
set_option maxRecDepth 100000 in
theorem lc_next {p : Program} {l : Launch} {e : Env} {s : State} {m : MethodId} {below : List Frame} {meth : Method} {c : Code} {b L : Nat} {xs : Nat → Int32} {D : va_G} {cI cC cZ cL cD : ClassId} {ad d ta : Nat → Nat} {qo qd : Nat} {Q : State → Prop} (hst : l.stackTraces = false) (C : LwC p s m c b L xs D cI cC cZ cL cD ad d ta qo qd) {S : St} {N : Nat} {H : Heap} {locs : List Loc} {cells slots j : Nat} {ls : Array Slot} (I : LwI D cI cC cZ cL cD ad d qo qd s S N H locs) (hj : 5 * j + 5 ≤ L) (hN : N + 2000 < 2 ^ 31) (hcap : cells + 1 ≤ room_1.cells ∧ slots + 6 ≤ room_1.slots) (hl : lv_has ls 10 [(5, .int (nI (5 * j))), (0, .ref (b)), (1, .ref (ad 0)), (2, .ref (d 0)), (3, .ref (qo)), (4, .ref (qd))]) (kk : ∀ (S1 : St) (H1 : Heap) (locs1 : List Loc) (ls1 : Array Slot), LwI D cI cC cZ cL cD ad d qo qd s S1 (N + 2000) H1 locs1 → lv_has ls1 10 [(5, .int (nI (5 * j))), (0, .ref (b)), (1, .ref (ad 0)), (2, .ref (d 0)), (3, .ref (qo)), (4, .ref (qd))] → W p l e room_1 s m #[Value.ref b] below meth c H1 locs1 (cells + 1) (slots + 6) Q (F0 m 2880 ls1 [])) : W p l e room_1 s m #[Value.ref b] below meth c H locs cells slots Q (F0 m 1498 ls []) := by
  obtain ⟨hx, hb, hml, hown, hG, hK, hE, hT, hZ, hX2, hX, hbl, hL, hap, hapd, hza, hzd, hzo, hzd2, hda, hqo, hqd, hdo, hdd, hne, had⟩ := C
  obtain ⟨hI, hW, ⟨th, hM⟩, ⟨fo, hPo⟩, ⟨gd, hPd⟩, hS⟩ := I
  have hb : c.code = cL_law := hb
  have hwr := fun (f : Nat → Int64) => wr_next l hst D cI cC cL ad ta s.heap.size S N qo f (xs (5 * j + 1)) hI hN hap hqo
  have hmd := fun (th : Int32) => m_next l D cI cZ d S th (xs (5 * j + 1)) hI hapd
  have hcd := cd_next S (xs (5 * j + 1))
  have hiv := inv_next (xs (5 * j + 1)) hI
  generalize sp_next S (xs (5 * j + 1)) = t at hwr hmd hcd hiv
  have hc9 : t.1 ≤ 3 := by
    rcases hcd with h | h
    · omega
    · have h9 := h.1
      omega
  refine lv_aload_n hx hb dL_law_1498 rfl (lv_at hl 2 rfl) ?_
  refine lv_aload_n hx hb dL_law_1499 rfl (lv_at hl 1 rfl) ?_
  refine lv_iload hx hb dL_law_1500 (lv_at hl 0 rfl) ?_
  refine lv_iconst (v := nI 1) hx hb dL_law_1502 (by decide) ?_
  refine x_iadd (v := nI ((5 * j) + 1)) hx hb dL_law_1503 (nI_add _ _) ?_
  refine x_sld hx hb hX hbl (fun z9 => absurd hbl (Nat.not_lt.mpr z9)) hS (i := (5 * j) + 1) (by omega) (by omega) dL_law_1504 ?_
  refine lv_aload_n hx hb dL_law_1505 rfl (lv_at hl 4 rfl) ?_
  refine k2_SW hx hb hml hown hG csw_L_209 (hwr fo) (by decide) (pzwS (hK.sub (tys' := [(cI, .int), (cC, .char), (cL, .long)]) [0, 1, 3] rfl) hE hT hZ hX2 hS.2.1 ⟨hW, hPo⟩) rfl hl.1 rfl (Nat.le_of_ble_eq_true rfl) dL_law_1506 hcap rfl hS (fun q z9 => z9.elim (fun ⟨i, hi, e9⟩ => e9 ▸ hza i hi) (fun e9 => e9 ▸ hzo)) (fun H locs hB9 hz hk hS => ?_)
  obtain ⟨hW, f9, hPo, hf⟩ := hB9
  have hM := hM.kept (fun i hi => hk _ (hM.lt hi) (fun z9 => z9.elim (hda i hi) (fun e9 => hdo ⟨i, hi, e9.symm⟩)))
  have hPd := oneK hPd (hk qd (va_lt hPd (k := 0) rfl) (fun z9 => z9.elim hqd (fun e9 => hne e9.symm)))
  refine lv_istore (lv' := [(6, .int (nI (t.1))), (5, .int (nI (5 * j))), (0, .ref (b)), (1, .ref (ad 0)), (2, .ref (d 0)), (3, .ref (qo)), (4, .ref (qd))]) hx hb dL_law_1509 hl (by decide) rfl (fun ls hl => ?_)
  refine lv_aload_n hx hb dL_law_1511 rfl (lv_at hl 4 rfl) ?_
  refine lv_aload_n hx hb dL_law_1512 rfl (lv_at hl 2 rfl) ?_
  refine lv_iload hx hb dL_law_1513 (lv_at hl 1 rfl) ?_
  refine lv_iconst (v := nI 1) hx hb dL_law_1515 (by decide) ?_
  refine x_iadd (v := nI ((5 * j) + 1)) hx hb dL_law_1516 (nI_add _ _) ?_
  refine x_sld hx hb hX hbl (fun z9 => absurd hbl (Nat.not_lt.mpr z9)) hS (i := (5 * j) + 1) (by omega) (by omega) dL_law_1517 ?_
  refine k2_V hx hb hml hown hG cs_L_211 (hmd th) (by decide) (pzV (hK.sub (tys' := [(cI, .int), (cZ, .boolean)]) [0, 2] rfl) rfl hM.rc hM) rfl hl.1 rfl (Nat.le_of_ble_eq_true rfl) dL_law_1518 ⟨hcap.1, hcap.2⟩ rfl hS (fun q ⟨i, hi, e9⟩ => e9 ▸ hzd i hi) (fun H locs hM hz hk hS => ?_)
  have hW := hW.kept (fun i hi => hk _ (hW.lt hi) (had i hi))
  have hPo := oneK hPo (hk qo (va_lt hPo (k := 0) rfl) hdo)
  have hPd := oneK hPd (hk qd (va_lt hPd (k := 0) rfl) hdd)
  refine lv_istore (lv' := [(7, .int (t.2.1)), (6, .int (nI (t.1))), (5, .int (nI (5 * j))), (0, .ref (b)), (1, .ref (ad 0)), (2, .ref (d 0)), (3, .ref (qo)), (4, .ref (qd))]) hx hb dL_law_1521 hl (by decide) rfl (fun ls hl => ?_)
  refine lv_aload_n hx hb dL_law_1523 rfl (lv_at hl 5 rfl) ?_
  refine k1_V hx hb hml hown hG cs_L_151 (c5_thrown l D cI cZ d t.2.2 (nI t.1)) (by decide) (pzV (hK.sub (tys' := [(cI, .int), (cZ, .boolean)]) [0, 2] rfl) rfl hM.rc hM) rfl hl.1 rfl (Nat.le_of_ble_eq_true rfl) dL_law_1524 ⟨hcap.1, hcap.2⟩ rfl ?_
  refine lv_iload hx hb dL_law_1527 (lv_at hl 1 rfl) ?_
  refine x_cmp_eq (tgt := 1534) hx hb dL_law_1529 (by decide) (by omega) (by omega) (fun zc1 => ?_) (fun zc1 => False.elim (by exact absurd rfl zc1))
  refine lv_iload hx hb dL_law_1534 (lv_at hl 1 rfl) ?_
  refine x_if_ne (tgt := 1551) hx hb dL_law_1536 (by decide) (by omega) (fun c0 => ?_) (fun c0 => ?_)
  · refine lv_goto (tgt := 2880) hx hb dL_law_1551 (by decide) ?_
    exact kk t.2.2 _ _ ls ⟨hiv, hW, ⟨_, hM⟩, ⟨_, hPo⟩, ⟨_, hPd⟩, hS⟩ (lv_sub hl [2, 3, 4, 5, 6, 7] rfl)
  · refine lv_aload_n hx hb dL_law_1539 rfl (lv_at hl 6 rfl) ?_
    refine lv_iconst (v := nI 0) hx hb dL_law_1540 (by decide) ?_
    refine x_lald0 hx hb (hf c0) hK hPo 3 rfl dL_law_1541 ?_
    refine lv_iload hx hb dL_law_1542 (lv_at hl 0 rfl) ?_
    refine lv_i2l (v := Int32.toInt64 t.2.1) hx hb dL_law_1544 rfl ?_
    refine W.lcmp hx hb dL_law_1545 ?_
    refine x_lifo_eq (tgt := 1551) hx hb dL_law_1546 (by decide) (fun zc2 => ?_) (fun zc2 => False.elim (by exact absurd rfl zc2))
    refine lv_goto (tgt := 2880) hx hb dL_law_1551 (by decide) ?_
    exact kk t.2.2 _ _ ls ⟨hiv, hW, ⟨_, hM⟩, ⟨_, hPo⟩, ⟨_, hPd⟩, hS⟩ (lv_sub hl [2, 3, 4, 5, 6, 7] rfl)
set_option maxHeartbeats 4000000 in
set_option maxRecDepth 100000 in
theorem lc_removeAt {p : Program} {l : Launch} {e : Env} {s : State} {m : MethodId} {below : List Frame} {meth : Method} {c : Code} {b L : Nat} {xs : Nat → Int32} {D : va_G} {cI cC cZ cL cD : ClassId} {ad d ta : Nat → Nat} {qo qd : Nat} {Q : State → Prop} (hst : l.stackTraces = false) (C : LwC p s m c b L xs D cI cC cZ cL cD ad d ta qo qd) {S : St} {N : Nat} {H : Heap} {locs : List Loc} {cells slots j : Nat} {ls : Array Slot} (I : LwI D cI cC cZ cL cD ad d qo qd s S N H locs) (hj : 5 * j + 5 ≤ L) (hN : N + 2000 < 2 ^ 31) (hcap : cells + 1 ≤ room_1.cells ∧ slots + 6 ≤ room_1.slots) (hl : lv_has ls 10 [(5, .int (nI (5 * j))), (0, .ref (b)), (1, .ref (ad 0)), (2, .ref (d 0)), (3, .ref (qo)), (4, .ref (qd))]) (kk : ∀ (S1 : St) (H1 : Heap) (locs1 : List Loc) (ls1 : Array Slot), LwI D cI cC cZ cL cD ad d qo qd s S1 (N + 2000) H1 locs1 → lv_has ls1 10 [(5, .int (nI (5 * j))), (0, .ref (b)), (1, .ref (ad 0)), (2, .ref (d 0)), (3, .ref (qo)), (4, .ref (qd))] → W p l e room_1 s m #[Value.ref b] below meth c H1 locs1 (cells + 1) (slots + 6) Q (F0 m 2880 ls1 [])) : W p l e room_1 s m #[Value.ref b] below meth c H locs cells slots Q (F0 m 1554 ls []) := by
  obtain ⟨hx, hb, hml, hown, hG, hK, hE, hT, hZ, hX2, hX, hbl, hL, hap, hapd, hza, hzd, hzo, hzd2, hda, hqo, hqd, hdo, hdd, hne, had⟩ := C
  obtain ⟨hI, hW, ⟨th, hM⟩, ⟨fo, hPo⟩, ⟨gd, hPd⟩, hS⟩ := I
  have hb : c.code = cL_law := hb
  have hwr := fun (f : Nat → Int64) => wr_removeAt l hst D cI cC cL ad ta s.heap.size S N qo f (xs (5 * j + 1)) hI hN hap hqo
  have hmd := fun (th : Int32) => m_removeAt l D cI cZ d S th (xs (5 * j + 1)) hI hapd
  have hcd := cd_removeAt S (xs (5 * j + 1))
  have hiv := inv_removeAt (xs (5 * j + 1)) hI
  generalize sp_removeAt S (xs (5 * j + 1)) = t at hwr hmd hcd hiv
  have hc9 : t.1 ≤ 3 := by
    rcases hcd with h | h
    · omega
    · have h9 := h.1
      omega
  refine lv_aload_n hx hb dL_law_1554 rfl (lv_at hl 2 rfl) ?_
  refine lv_aload_n hx hb dL_law_1555 rfl (lv_at hl 1 rfl) ?_
  refine lv_iload hx hb dL_law_1556 (lv_at hl 0 rfl) ?_
  refine lv_iconst (v := nI 1) hx hb dL_law_1558 (by decide) ?_
  refine x_iadd (v := nI ((5 * j) + 1)) hx hb dL_law_1559 (nI_add _ _) ?_
  refine x_sld hx hb hX hbl (fun z9 => absurd hbl (Nat.not_lt.mpr z9)) hS (i := (5 * j) + 1) (by omega) (by omega) dL_law_1560 ?_
  refine lv_aload_n hx hb dL_law_1561 rfl (lv_at hl 4 rfl) ?_
  refine k2_SW hx hb hml hown hG csw_L_212 (hwr fo) (by decide) (pzwS (hK.sub (tys' := [(cI, .int), (cC, .char), (cL, .long)]) [0, 1, 3] rfl) hE hT hZ hX2 hS.2.1 ⟨hW, hPo⟩) rfl hl.1 rfl (Nat.le_of_ble_eq_true rfl) dL_law_1562 hcap rfl hS (fun q z9 => z9.elim (fun ⟨i, hi, e9⟩ => e9 ▸ hza i hi) (fun e9 => e9 ▸ hzo)) (fun H locs hB9 hz hk hS => ?_)
  obtain ⟨hW, f9, hPo, hf⟩ := hB9
  have hM := hM.kept (fun i hi => hk _ (hM.lt hi) (fun z9 => z9.elim (hda i hi) (fun e9 => hdo ⟨i, hi, e9.symm⟩)))
  have hPd := oneK hPd (hk qd (va_lt hPd (k := 0) rfl) (fun z9 => z9.elim hqd (fun e9 => hne e9.symm)))
  refine lv_istore (lv' := [(6, .int (nI (t.1))), (5, .int (nI (5 * j))), (0, .ref (b)), (1, .ref (ad 0)), (2, .ref (d 0)), (3, .ref (qo)), (4, .ref (qd))]) hx hb dL_law_1565 hl (by decide) rfl (fun ls hl => ?_)
  refine lv_aload_n hx hb dL_law_1567 rfl (lv_at hl 4 rfl) ?_
  refine lv_aload_n hx hb dL_law_1568 rfl (lv_at hl 2 rfl) ?_
  refine lv_iload hx hb dL_law_1569 (lv_at hl 1 rfl) ?_
  refine lv_iconst (v := nI 1) hx hb dL_law_1571 (by decide) ?_
  refine x_iadd (v := nI ((5 * j) + 1)) hx hb dL_law_1572 (nI_add _ _) ?_
  refine x_sld hx hb hX hbl (fun z9 => absurd hbl (Nat.not_lt.mpr z9)) hS (i := (5 * j) + 1) (by omega) (by omega) dL_law_1573 ?_
  refine k2_V hx hb hml hown hG cs_L_214 (hmd th) (by decide) (pzV (hK.sub (tys' := [(cI, .int), (cZ, .boolean)]) [0, 2] rfl) rfl hM.rc hM) rfl hl.1 rfl (Nat.le_of_ble_eq_true rfl) dL_law_1574 ⟨hcap.1, hcap.2⟩ rfl hS (fun q ⟨i, hi, e9⟩ => e9 ▸ hzd i hi) (fun H locs hM hz hk hS => ?_)
  have hW := hW.kept (fun i hi => hk _ (hW.lt hi) (had i hi))
  have hPo := oneK hPo (hk qo (va_lt hPo (k := 0) rfl) hdo)
  have hPd := oneK hPd (hk qd (va_lt hPd (k := 0) rfl) hdd)
  refine lv_istore (lv' := [(7, .int (t.2.1)), (6, .int (nI (t.1))), (5, .int (nI (5 * j))), (0, .ref (b)), (1, .ref (ad 0)), (2, .ref (d 0)), (3, .ref (qo)), (4, .ref (qd))]) hx hb dL_law_1577 hl (by decide) rfl (fun ls hl => ?_)
  refine lv_aload_n hx hb dL_law_1579 rfl (lv_at hl 5 rfl) ?_
  refine k1_V hx hb hml hown hG cs_L_151 (c5_thrown l D cI cZ d t.2.2 (nI t.1)) (by decide) (pzV (hK.sub (tys' := [(cI, .int), (cZ, .boolean)]) [0, 2] rfl) rfl hM.rc hM) rfl hl.1 rfl (Nat.le_of_ble_eq_true rfl) dL_law_1580 ⟨hcap.1, hcap.2⟩ rfl ?_
  refine lv_iload hx hb dL_law_1583 (lv_at hl 1 rfl) ?_
  refine x_cmp_eq (tgt := 1590) hx hb dL_law_1585 (by decide) (by omega) (by omega) (fun zc1 => ?_) (fun zc1 => False.elim (by exact absurd rfl zc1))
  refine lv_iload hx hb dL_law_1590 (lv_at hl 1 rfl) ?_
  refine x_if_ne (tgt := 1607) hx hb dL_law_1592 (by decide) (by omega) (fun c0 => ?_) (fun c0 => ?_)
  · refine lv_goto (tgt := 2880) hx hb dL_law_1607 (by decide) ?_
    exact kk t.2.2 _ _ ls ⟨hiv, hW, ⟨_, hM⟩, ⟨_, hPo⟩, ⟨_, hPd⟩, hS⟩ (lv_sub hl [2, 3, 4, 5, 6, 7] rfl)
  · refine lv_aload_n hx hb dL_law_1595 rfl (lv_at hl 6 rfl) ?_
    refine lv_iconst (v := nI 0) hx hb dL_law_1596 (by decide) ?_
    refine x_lald0 hx hb (hf c0) hK hPo 3 rfl dL_law_1597 ?_
    refine lv_iload hx hb dL_law_1598 (lv_at hl 0 rfl) ?_
    refine lv_i2l (v := Int32.toInt64 t.2.1) hx hb dL_law_1600 rfl ?_
    refine W.lcmp hx hb dL_law_1601 ?_
    refine x_lifo_eq (tgt := 1607) hx hb dL_law_1602 (by decide) (fun zc2 => ?_) (fun zc2 => False.elim (by exact absurd rfl zc2))
    refine lv_goto (tgt := 2880) hx hb dL_law_1607 (by decide) ?_
    exact kk t.2.2 _ _ ls ⟨hiv, hW, ⟨_, hM⟩, ⟨_, hPo⟩, ⟨_, hPd⟩, hS⟩ (lv_sub hl [2, 3, 4, 5, 6, 7] rfl)
set_option maxHeartbeats 4000000 in
set_option maxRecDepth 100000 in
theorem lc_setAt {p : Program} {l : Launch} {e : Env} {s : State} {m : MethodId} {below : List Frame} {meth : Method} {c : Code} {b L : Nat} {xs : Nat → Int32} {D : va_G} {cI cC cZ cL cD : ClassId} {ad d ta : Nat → Nat} {qo qd : Nat} {Q : State → Prop} (hst : l.stackTraces = false) (C : LwC p s m c b L xs D cI cC cZ cL cD ad d ta qo qd) {S : St} {N : Nat} {H : Heap} {locs : List Loc} {cells slots j : Nat} {ls : Array Slot} (I : LwI D cI cC cZ cL cD ad d qo qd s S N H locs) (hj : 5 * j + 5 ≤ L) (hN : N + 2000 < 2 ^ 31) (hcap : cells + 1 ≤ room_1.cells ∧ slots + 6 ≤ room_1.slots) (hl : lv_has ls 10 [(5, .int (nI (5 * j))), (0, .ref (b)), (1, .ref (ad 0)), (2, .ref (d 0)), (3, .ref (qo)), (4, .ref (qd))]) (kk : ∀ (S1 : St) (H1 : Heap) (locs1 : List Loc) (ls1 : Array Slot), LwI D cI cC cZ cL cD ad d qo qd s S1 (N + 2000) H1 locs1 → lv_has ls1 10 [(5, .int (nI (5 * j))), (0, .ref (b)), (1, .ref (ad 0)), (2, .ref (d 0)), (3, .ref (qo)), (4, .ref (qd))] → W p l e room_1 s m #[Value.ref b] below meth c H1 locs1 (cells + 1) (slots + 6) Q (F0 m 2880 ls1 [])) : W p l e room_1 s m #[Value.ref b] below meth c H locs cells slots Q (F0 m 1610 ls []) := by
  obtain ⟨hx, hb, hml, hown, hG, hK, hE, hT, hZ, hX2, hX, hbl, hL, hap, hapd, hza, hzd, hzo, hzd2, hda, hqo, hqd, hdo, hdd, hne, had⟩ := C
  obtain ⟨hI, hW, ⟨th, hM⟩, ⟨fo, hPo⟩, ⟨gd, hPd⟩, hS⟩ := I
  have hb : c.code = cL_law := hb
  have hwr := fun (f : Nat → Int64) => wr_setAt l hst D cI cC cL ad ta s.heap.size S N qo f (xs (5 * j + 1)) (xs (5 * j + 2)) hI hN hap hqo
  have hmd := fun (th : Int32) => m_setAt l D cI cZ d S th (xs (5 * j + 1)) (xs (5 * j + 2)) hI hapd
  have hcd := cd_setAt S (xs (5 * j + 1)) (xs (5 * j + 2))
  have hiv := inv_setAt (xs (5 * j + 1)) (xs (5 * j + 2)) hI
  generalize sp_setAt S (xs (5 * j + 1)) (xs (5 * j + 2)) = t at hwr hmd hcd hiv
  have hc9 : t.1 ≤ 3 := by
    rcases hcd with h | h
    · omega
    · have h9 := h.1
      omega
  refine lv_aload_n hx hb dL_law_1610 rfl (lv_at hl 2 rfl) ?_
  refine lv_aload_n hx hb dL_law_1611 rfl (lv_at hl 1 rfl) ?_
  refine lv_iload hx hb dL_law_1612 (lv_at hl 0 rfl) ?_
  refine lv_iconst (v := nI 1) hx hb dL_law_1614 (by decide) ?_
  refine x_iadd (v := nI ((5 * j) + 1)) hx hb dL_law_1615 (nI_add _ _) ?_
  refine x_sld hx hb hX hbl (fun z9 => absurd hbl (Nat.not_lt.mpr z9)) hS (i := (5 * j) + 1) (by omega) (by omega) dL_law_1616 ?_
  refine lv_aload_n hx hb dL_law_1617 rfl (lv_at hl 1 rfl) ?_
  refine lv_iload hx hb dL_law_1618 (lv_at hl 0 rfl) ?_
  refine lv_iconst (v := nI 2) hx hb dL_law_1620 (by decide) ?_
  refine x_iadd (v := nI ((5 * j) + 2)) hx hb dL_law_1621 (nI_add _ _) ?_
  refine x_sld hx hb hX hbl (fun z9 => absurd hbl (Nat.not_lt.mpr z9)) hS (i := (5 * j) + 2) (by omega) (by omega) dL_law_1622 ?_
  refine lv_aload_n hx hb dL_law_1623 rfl (lv_at hl 4 rfl) ?_
  refine k2_SW hx hb hml hown hG csw_L_215 (hwr fo) (by decide) (pzwS (hK.sub (tys' := [(cI, .int), (cC, .char), (cL, .long)]) [0, 1, 3] rfl) hE hT hZ hX2 hS.2.1 ⟨hW, hPo⟩) rfl hl.1 rfl (Nat.le_of_ble_eq_true rfl) dL_law_1624 hcap rfl hS (fun q z9 => z9.elim (fun ⟨i, hi, e9⟩ => e9 ▸ hza i hi) (fun e9 => e9 ▸ hzo)) (fun H locs hB9 hz hk hS => ?_)
  obtain ⟨hW, f9, hPo, hf⟩ := hB9
  have hM := hM.kept (fun i hi => hk _ (hM.lt hi) (fun z9 => z9.elim (hda i hi) (fun e9 => hdo ⟨i, hi, e9.symm⟩)))
  have hPd := oneK hPd (hk qd (va_lt hPd (k := 0) rfl) (fun z9 => z9.elim hqd (fun e9 => hne e9.symm)))
  refine lv_istore (lv' := [(6, .int (nI (t.1))), (5, .int (nI (5 * j))), (0, .ref (b)), (1, .ref (ad 0)), (2, .ref (d 0)), (3, .ref (qo)), (4, .ref (qd))]) hx hb dL_law_1627 hl (by decide) rfl (fun ls hl => ?_)
  refine lv_aload_n hx hb dL_law_1629 rfl (lv_at hl 4 rfl) ?_
  refine lv_aload_n hx hb dL_law_1630 rfl (lv_at hl 2 rfl) ?_
  refine lv_iload hx hb dL_law_1631 (lv_at hl 1 rfl) ?_
  refine lv_iconst (v := nI 1) hx hb dL_law_1633 (by decide) ?_
  refine x_iadd (v := nI ((5 * j) + 1)) hx hb dL_law_1634 (nI_add _ _) ?_
  refine x_sld hx hb hX hbl (fun z9 => absurd hbl (Nat.not_lt.mpr z9)) hS (i := (5 * j) + 1) (by omega) (by omega) dL_law_1635 ?_
  refine lv_aload_n hx hb dL_law_1636 rfl (lv_at hl 2 rfl) ?_
  refine lv_iload hx hb dL_law_1637 (lv_at hl 1 rfl) ?_
  refine lv_iconst (v := nI 2) hx hb dL_law_1639 (by decide) ?_
  refine x_iadd (v := nI ((5 * j) + 2)) hx hb dL_law_1640 (nI_add _ _) ?_
  refine x_sld hx hb hX hbl (fun z9 => absurd hbl (Nat.not_lt.mpr z9)) hS (i := (5 * j) + 2) (by omega) (by omega) dL_law_1641 ?_
  refine k2_V hx hb hml hown hG cs_L_217 (hmd th) (by decide) (pzV (hK.sub (tys' := [(cI, .int), (cZ, .boolean)]) [0, 2] rfl) rfl hM.rc hM) rfl hl.1 rfl (Nat.le_of_ble_eq_true rfl) dL_law_1642 ⟨hcap.1, hcap.2⟩ rfl hS (fun q ⟨i, hi, e9⟩ => e9 ▸ hzd i hi) (fun H locs hM hz hk hS => ?_)
  have hW := hW.kept (fun i hi => hk _ (hW.lt hi) (had i hi))
  have hPo := oneK hPo (hk qo (va_lt hPo (k := 0) rfl) hdo)
  have hPd := oneK hPd (hk qd (va_lt hPd (k := 0) rfl) hdd)
  refine lv_istore (lv' := [(7, .int (t.2.1)), (6, .int (nI (t.1))), (5, .int (nI (5 * j))), (0, .ref (b)), (1, .ref (ad 0)), (2, .ref (d 0)), (3, .ref (qo)), (4, .ref (qd))]) hx hb dL_law_1645 hl (by decide) rfl (fun ls hl => ?_)
  refine lv_aload_n hx hb dL_law_1647 rfl (lv_at hl 5 rfl) ?_
  refine k1_V hx hb hml hown hG cs_L_151 (c5_thrown l D cI cZ d t.2.2 (nI t.1)) (by decide) (pzV (hK.sub (tys' := [(cI, .int), (cZ, .boolean)]) [0, 2] rfl) rfl hM.rc hM) rfl hl.1 rfl (Nat.le_of_ble_eq_true rfl) dL_law_1648 ⟨hcap.1, hcap.2⟩ rfl ?_
  refine lv_iload hx hb dL_law_1651 (lv_at hl 1 rfl) ?_
  refine x_cmp_eq (tgt := 1658) hx hb dL_law_1653 (by decide) (by omega) (by omega) (fun zc1 => ?_) (fun zc1 => False.elim (by exact absurd rfl zc1))
  refine lv_iload hx hb dL_law_1658 (lv_at hl 1 rfl) ?_
  refine x_if_ne (tgt := 1675) hx hb dL_law_1660 (by decide) (by omega) (fun c0 => ?_) (fun c0 => ?_)
  · refine lv_goto (tgt := 2880) hx hb dL_law_1675 (by decide) ?_
    exact kk t.2.2 _ _ ls ⟨hiv, hW, ⟨_, hM⟩, ⟨_, hPo⟩, ⟨_, hPd⟩, hS⟩ (lv_sub hl [2, 3, 4, 5, 6, 7] rfl)
  · refine lv_aload_n hx hb dL_law_1663 rfl (lv_at hl 6 rfl) ?_
    refine lv_iconst (v := nI 0) hx hb dL_law_1664 (by decide) ?_
    refine x_lald0 hx hb (hf c0) hK hPo 3 rfl dL_law_1665 ?_
    refine lv_iload hx hb dL_law_1666 (lv_at hl 0 rfl) ?_
    refine lv_i2l (v := Int32.toInt64 t.2.1) hx hb dL_law_1668 rfl ?_
    refine W.lcmp hx hb dL_law_1669 ?_
    refine x_lifo_eq (tgt := 1675) hx hb dL_law_1670 (by decide) (fun zc2 => ?_) (fun zc2 => False.elim (by exact absurd rfl zc2))
    refine lv_goto (tgt := 2880) hx hb dL_law_1675 (by decide) ?_
    exact kk t.2.2 _ _ ls ⟨hiv, hW, ⟨_, hM⟩, ⟨_, hPo⟩, ⟨_, hPd⟩, hS⟩ (lv_sub hl [2, 3, 4, 5, 6, 7] rfl)
set_option maxHeartbeats 4000000 in
set_option maxRecDepth 100000 in
theorem lc_bookOf {p : Program} {l : Launch} {e : Env} {s : State} {m : MethodId} {below : List Frame} {meth : Method} {c : Code} {b L : Nat} {xs : Nat → Int32} {D : va_G} {cI cC cZ cL cD : ClassId} {ad d ta : Nat → Nat} {qo qd : Nat} {Q : State → Prop} (hst : l.stackTraces = false) (C : LwC p s m c b L xs D cI cC cZ cL cD ad d ta qo qd) {S : St} {N : Nat} {H : Heap} {locs : List Loc} {cells slots j : Nat} {ls : Array Slot} (I : LwI D cI cC cZ cL cD ad d qo qd s S N H locs) (hj : 5 * j + 5 ≤ L) (hN : N + 2000 < 2 ^ 31) (hcap : cells + 1 ≤ room_1.cells ∧ slots + 6 ≤ room_1.slots) (hl : lv_has ls 10 [(5, .int (nI (5 * j))), (0, .ref (b)), (1, .ref (ad 0)), (2, .ref (d 0)), (3, .ref (qo)), (4, .ref (qd))]) (kk : ∀ (S1 : St) (H1 : Heap) (locs1 : List Loc) (ls1 : Array Slot), LwI D cI cC cZ cL cD ad d qo qd s S1 (N + 2000) H1 locs1 → lv_has ls1 10 [(5, .int (nI (5 * j))), (0, .ref (b)), (1, .ref (ad 0)), (2, .ref (d 0)), (3, .ref (qo)), (4, .ref (qd))] → W p l e room_1 s m #[Value.ref b] below meth c H1 locs1 (cells + 1) (slots + 6) Q (F0 m 2880 ls1 [])) : W p l e room_1 s m #[Value.ref b] below meth c H locs cells slots Q (F0 m 1678 ls []) := by
  obtain ⟨hx, hb, hml, hown, hG, hK, hE, hT, hZ, hX2, hX, hbl, hL, hap, hapd, hza, hzd, hzo, hzd2, hda, hqo, hqd, hdo, hdd, hne, had⟩ := C
  obtain ⟨hI, hW, ⟨th, hM⟩, ⟨fo, hPo⟩, ⟨gd, hPd⟩, hS⟩ := I
  have hb : c.code = cL_law := hb
  have hwr := fun (f : Nat → Int64) => wr_bookOf l hst D cI cC cL ad ta s.heap.size S N qo f (xs (5 * j + 1)) hI hN hap hqo
  have hmd := fun (th : Int32) => m_bookOf l D cI cZ d S th (xs (5 * j + 1)) hI hapd
  have hcd := cd_bookOf S (xs (5 * j + 1))
  have hiv : Inv (sp_bookOf S (xs (5 * j + 1))).2.2 := by rw [st_bookOf]; exact hI
  generalize sp_bookOf S (xs (5 * j + 1)) = t at hwr hmd hcd hiv
  have hc9 : t.1 ≤ 3 := by
    rcases hcd with h | h
    · omega
    · have h9 := h.1
      omega
  refine lv_aload_n hx hb dL_law_1678 rfl (lv_at hl 2 rfl) ?_
  refine lv_aload_n hx hb dL_law_1679 rfl (lv_at hl 1 rfl) ?_
  refine lv_iload hx hb dL_law_1680 (lv_at hl 0 rfl) ?_
  refine lv_iconst (v := nI 1) hx hb dL_law_1682 (by decide) ?_
  refine x_iadd (v := nI ((5 * j) + 1)) hx hb dL_law_1683 (nI_add _ _) ?_
  refine x_sld hx hb hX hbl (fun z9 => absurd hbl (Nat.not_lt.mpr z9)) hS (i := (5 * j) + 1) (by omega) (by omega) dL_law_1684 ?_
  refine lv_aload_n hx hb dL_law_1685 rfl (lv_at hl 4 rfl) ?_
  refine k2_SW hx hb hml hown hG csw_L_218 (hwr fo) (by decide) (pzwS (hK.sub (tys' := [(cI, .int), (cC, .char), (cL, .long)]) [0, 1, 3] rfl) hE hT hZ hX2 hS.2.1 ⟨hW, hPo⟩) rfl hl.1 rfl (Nat.le_of_ble_eq_true rfl) dL_law_1686 hcap rfl hS (fun q z9 => z9.elim (fun ⟨i, hi, e9⟩ => e9 ▸ hza i hi) (fun e9 => e9 ▸ hzo)) (fun H locs hB9 hz hk hS => ?_)
  obtain ⟨hW, f9, hPo, hf⟩ := hB9
  have hM := hM.kept (fun i hi => hk _ (hM.lt hi) (fun z9 => z9.elim (hda i hi) (fun e9 => hdo ⟨i, hi, e9.symm⟩)))
  have hPd := oneK hPd (hk qd (va_lt hPd (k := 0) rfl) (fun z9 => z9.elim hqd (fun e9 => hne e9.symm)))
  refine lv_istore (lv' := [(6, .int (nI (t.1))), (5, .int (nI (5 * j))), (0, .ref (b)), (1, .ref (ad 0)), (2, .ref (d 0)), (3, .ref (qo)), (4, .ref (qd))]) hx hb dL_law_1689 hl (by decide) rfl (fun ls hl => ?_)
  refine lv_aload_n hx hb dL_law_1691 rfl (lv_at hl 4 rfl) ?_
  refine lv_aload_n hx hb dL_law_1692 rfl (lv_at hl 2 rfl) ?_
  refine lv_iload hx hb dL_law_1693 (lv_at hl 1 rfl) ?_
  refine lv_iconst (v := nI 1) hx hb dL_law_1695 (by decide) ?_
  refine x_iadd (v := nI ((5 * j) + 1)) hx hb dL_law_1696 (nI_add _ _) ?_
  refine x_sld hx hb hX hbl (fun z9 => absurd hbl (Nat.not_lt.mpr z9)) hS (i := (5 * j) + 1) (by omega) (by omega) dL_law_1697 ?_
  refine k2_V hx hb hml hown hG cs_L_220 (hmd th) (by decide) (pzV (hK.sub (tys' := [(cI, .int), (cZ, .boolean)]) [0, 2] rfl) rfl hM.rc hM) rfl hl.1 rfl (Nat.le_of_ble_eq_true rfl) dL_law_1698 ⟨hcap.1, hcap.2⟩ rfl hS (fun q ⟨i, hi, e9⟩ => e9 ▸ hzd i hi) (fun H locs hM hz hk hS => ?_)
  have hW := hW.kept (fun i hi => hk _ (hW.lt hi) (had i hi))
  have hPo := oneK hPo (hk qo (va_lt hPo (k := 0) rfl) hdo)
  have hPd := oneK hPd (hk qd (va_lt hPd (k := 0) rfl) hdd)
  refine lv_istore (lv' := [(7, .int (t.2.1)), (6, .int (nI (t.1))), (5, .int (nI (5 * j))), (0, .ref (b)), (1, .ref (ad 0)), (2, .ref (d 0)), (3, .ref (qo)), (4, .ref (qd))]) hx hb dL_law_1701 hl (by decide) rfl (fun ls hl => ?_)
  refine lv_aload_n hx hb dL_law_1703 rfl (lv_at hl 5 rfl) ?_
  refine k1_V hx hb hml hown hG cs_L_151 (c5_thrown l D cI cZ d t.2.2 (nI t.1)) (by decide) (pzV (hK.sub (tys' := [(cI, .int), (cZ, .boolean)]) [0, 2] rfl) rfl hM.rc hM) rfl hl.1 rfl (Nat.le_of_ble_eq_true rfl) dL_law_1704 ⟨hcap.1, hcap.2⟩ rfl ?_
  refine lv_iload hx hb dL_law_1707 (lv_at hl 1 rfl) ?_
  refine x_cmp_eq (tgt := 1714) hx hb dL_law_1709 (by decide) (by omega) (by omega) (fun zc1 => ?_) (fun zc1 => False.elim (by exact absurd rfl zc1))
  refine lv_iload hx hb dL_law_1714 (lv_at hl 1 rfl) ?_
  refine x_if_ne (tgt := 1731) hx hb dL_law_1716 (by decide) (by omega) (fun c0 => ?_) (fun c0 => ?_)
  · refine lv_goto (tgt := 2880) hx hb dL_law_1731 (by decide) ?_
    exact kk t.2.2 _ _ ls ⟨hiv, hW, ⟨_, hM⟩, ⟨_, hPo⟩, ⟨_, hPd⟩, hS⟩ (lv_sub hl [2, 3, 4, 5, 6, 7] rfl)
  · refine lv_aload_n hx hb dL_law_1719 rfl (lv_at hl 6 rfl) ?_
    refine lv_iconst (v := nI 0) hx hb dL_law_1720 (by decide) ?_
    refine x_lald0 hx hb (hf c0) hK hPo 3 rfl dL_law_1721 ?_
    refine lv_iload hx hb dL_law_1722 (lv_at hl 0 rfl) ?_
    refine lv_i2l (v := Int32.toInt64 t.2.1) hx hb dL_law_1724 rfl ?_
    refine W.lcmp hx hb dL_law_1725 ?_
    refine x_lifo_eq (tgt := 1731) hx hb dL_law_1726 (by decide) (fun zc2 => ?_) (fun zc2 => False.elim (by exact absurd rfl zc2))
    refine lv_goto (tgt := 2880) hx hb dL_law_1731 (by decide) ?_
    exact kk t.2.2 _ _ ls ⟨hiv, hW, ⟨_, hM⟩, ⟨_, hPo⟩, ⟨_, hPd⟩, hS⟩ (lv_sub hl [2, 3, 4, 5, 6, 7] rfl)
set_option maxHeartbeats 4000000 in
set_option maxRecDepth 100000 in
theorem lc_size {p : Program} {l : Launch} {e : Env} {s : State} {m : MethodId} {below : List Frame} {meth : Method} {c : Code} {b L : Nat} {xs : Nat → Int32} {D : va_G} {cI cC cZ cL cD : ClassId} {ad d ta : Nat → Nat} {qo qd : Nat} {Q : State → Prop} (hst : l.stackTraces = false) (C : LwC p s m c b L xs D cI cC cZ cL cD ad d ta qo qd) {S : St} {N : Nat} {H : Heap} {locs : List Loc} {cells slots j : Nat} {ls : Array Slot} (I : LwI D cI cC cZ cL cD ad d qo qd s S N H locs) (hj : 5 * j + 5 ≤ L) (hN : N + 2000 < 2 ^ 31) (hcap : cells + 1 ≤ room_1.cells ∧ slots + 6 ≤ room_1.slots) (hl : lv_has ls 10 [(5, .int (nI (5 * j))), (0, .ref (b)), (1, .ref (ad 0)), (2, .ref (d 0)), (3, .ref (qo)), (4, .ref (qd))]) (kk : ∀ (S1 : St) (H1 : Heap) (locs1 : List Loc) (ls1 : Array Slot), LwI D cI cC cZ cL cD ad d qo qd s S1 (N + 2000) H1 locs1 → lv_has ls1 10 [(5, .int (nI (5 * j))), (0, .ref (b)), (1, .ref (ad 0)), (2, .ref (d 0)), (3, .ref (qo)), (4, .ref (qd))] → W p l e room_1 s m #[Value.ref b] below meth c H1 locs1 (cells + 1) (slots + 6) Q (F0 m 2880 ls1 [])) : W p l e room_1 s m #[Value.ref b] below meth c H locs cells slots Q (F0 m 1734 ls []) := by
  obtain ⟨hx, hb, hml, hown, hG, hK, hE, hT, hZ, hX2, hX, hbl, hL, hap, hapd, hza, hzd, hzo, hzd2, hda, hqo, hqd, hdo, hdd, hne, had⟩ := C
  obtain ⟨hI, hW, ⟨th, hM⟩, ⟨fo, hPo⟩, ⟨gd, hPd⟩, hS⟩ := I
  have hb : c.code = cL_law := hb
  have hwr := fun (f : Nat → Int64) => wr_size l hst D cI cC cL ad ta s.heap.size S N qo f (xs (5 * j + 1)) hI hN hap hqo
  have hmd := fun (th : Int32) => m_size l D cI cZ d S th (xs (5 * j + 1)) hI hapd
  have hcd := cd_size S (xs (5 * j + 1))
  have hiv : Inv (sp_size S (xs (5 * j + 1))).2.2 := by rw [st_size]; exact hI
  generalize sp_size S (xs (5 * j + 1)) = t at hwr hmd hcd hiv
  have hc9 : t.1 ≤ 3 := by
    rcases hcd with h | h
    · omega
    · have h9 := h.1
      omega
  refine lv_aload_n hx hb dL_law_1734 rfl (lv_at hl 2 rfl) ?_
  refine lv_aload_n hx hb dL_law_1735 rfl (lv_at hl 1 rfl) ?_
  refine lv_iload hx hb dL_law_1736 (lv_at hl 0 rfl) ?_
  refine lv_iconst (v := nI 1) hx hb dL_law_1738 (by decide) ?_
  refine x_iadd (v := nI ((5 * j) + 1)) hx hb dL_law_1739 (nI_add _ _) ?_
  refine x_sld hx hb hX hbl (fun z9 => absurd hbl (Nat.not_lt.mpr z9)) hS (i := (5 * j) + 1) (by omega) (by omega) dL_law_1740 ?_
  refine lv_aload_n hx hb dL_law_1741 rfl (lv_at hl 4 rfl) ?_
  refine k2_SW hx hb hml hown hG csw_L_221 (hwr fo) (by decide) (pzwS (hK.sub (tys' := [(cI, .int), (cC, .char), (cL, .long)]) [0, 1, 3] rfl) hE hT hZ hX2 hS.2.1 ⟨hW, hPo⟩) rfl hl.1 rfl (Nat.le_of_ble_eq_true rfl) dL_law_1742 hcap rfl hS (fun q z9 => z9.elim (fun ⟨i, hi, e9⟩ => e9 ▸ hza i hi) (fun e9 => e9 ▸ hzo)) (fun H locs hB9 hz hk hS => ?_)
  obtain ⟨hW, f9, hPo, hf⟩ := hB9
  have hM := hM.kept (fun i hi => hk _ (hM.lt hi) (fun z9 => z9.elim (hda i hi) (fun e9 => hdo ⟨i, hi, e9.symm⟩)))
  have hPd := oneK hPd (hk qd (va_lt hPd (k := 0) rfl) (fun z9 => z9.elim hqd (fun e9 => hne e9.symm)))
  refine lv_istore (lv' := [(6, .int (nI (t.1))), (5, .int (nI (5 * j))), (0, .ref (b)), (1, .ref (ad 0)), (2, .ref (d 0)), (3, .ref (qo)), (4, .ref (qd))]) hx hb dL_law_1745 hl (by decide) rfl (fun ls hl => ?_)
  refine lv_aload_n hx hb dL_law_1747 rfl (lv_at hl 4 rfl) ?_
  refine lv_aload_n hx hb dL_law_1748 rfl (lv_at hl 2 rfl) ?_
  refine lv_iload hx hb dL_law_1749 (lv_at hl 1 rfl) ?_
  refine lv_iconst (v := nI 1) hx hb dL_law_1751 (by decide) ?_
  refine x_iadd (v := nI ((5 * j) + 1)) hx hb dL_law_1752 (nI_add _ _) ?_
  refine x_sld hx hb hX hbl (fun z9 => absurd hbl (Nat.not_lt.mpr z9)) hS (i := (5 * j) + 1) (by omega) (by omega) dL_law_1753 ?_
  refine k2_V hx hb hml hown hG cs_L_223 (hmd th) (by decide) (pzV (hK.sub (tys' := [(cI, .int), (cZ, .boolean)]) [0, 2] rfl) rfl hM.rc hM) rfl hl.1 rfl (Nat.le_of_ble_eq_true rfl) dL_law_1754 ⟨hcap.1, hcap.2⟩ rfl hS (fun q ⟨i, hi, e9⟩ => e9 ▸ hzd i hi) (fun H locs hM hz hk hS => ?_)
  have hW := hW.kept (fun i hi => hk _ (hW.lt hi) (had i hi))
  have hPo := oneK hPo (hk qo (va_lt hPo (k := 0) rfl) hdo)
  have hPd := oneK hPd (hk qd (va_lt hPd (k := 0) rfl) hdd)
  refine lv_istore (lv' := [(7, .int (t.2.1)), (6, .int (nI (t.1))), (5, .int (nI (5 * j))), (0, .ref (b)), (1, .ref (ad 0)), (2, .ref (d 0)), (3, .ref (qo)), (4, .ref (qd))]) hx hb dL_law_1757 hl (by decide) rfl (fun ls hl => ?_)
  refine lv_aload_n hx hb dL_law_1759 rfl (lv_at hl 5 rfl) ?_
  refine k1_V hx hb hml hown hG cs_L_151 (c5_thrown l D cI cZ d t.2.2 (nI t.1)) (by decide) (pzV (hK.sub (tys' := [(cI, .int), (cZ, .boolean)]) [0, 2] rfl) rfl hM.rc hM) rfl hl.1 rfl (Nat.le_of_ble_eq_true rfl) dL_law_1760 ⟨hcap.1, hcap.2⟩ rfl ?_
  refine lv_iload hx hb dL_law_1763 (lv_at hl 1 rfl) ?_
  refine x_cmp_eq (tgt := 1770) hx hb dL_law_1765 (by decide) (by omega) (by omega) (fun zc1 => ?_) (fun zc1 => False.elim (by exact absurd rfl zc1))
  refine lv_iload hx hb dL_law_1770 (lv_at hl 1 rfl) ?_
  refine x_if_ne (tgt := 1787) hx hb dL_law_1772 (by decide) (by omega) (fun c0 => ?_) (fun c0 => ?_)
  · refine lv_goto (tgt := 2880) hx hb dL_law_1787 (by decide) ?_
    exact kk t.2.2 _ _ ls ⟨hiv, hW, ⟨_, hM⟩, ⟨_, hPo⟩, ⟨_, hPd⟩, hS⟩ (lv_sub hl [2, 3, 4, 5, 6, 7] rfl)
  · refine lv_aload_n hx hb dL_law_1775 rfl (lv_at hl 6 rfl) ?_
    refine lv_iconst (v := nI 0) hx hb dL_law_1776 (by decide) ?_
    refine x_lald0 hx hb (hf c0) hK hPo 3 rfl dL_law_1777 ?_
    refine lv_iload hx hb dL_law_1778 (lv_at hl 0 rfl) ?_
    refine lv_i2l (v := Int32.toInt64 t.2.1) hx hb dL_law_1780 rfl ?_
    refine W.lcmp hx hb dL_law_1781 ?_
    refine x_lifo_eq (tgt := 1787) hx hb dL_law_1782 (by decide) (fun zc2 => ?_) (fun zc2 => False.elim (by exact absurd rfl zc2))
    refine lv_goto (tgt := 2880) hx hb dL_law_1787 (by decide) ?_
    exact kk t.2.2 _ _ ls ⟨hiv, hW, ⟨_, hM⟩, ⟨_, hPo⟩, ⟨_, hPd⟩, hS⟩ (lv_sub hl [2, 3, 4, 5, 6, 7] rfl)
set_option maxHeartbeats 4000000 in
set_option maxRecDepth 100000 in
theorem lc_hasKey {p : Program} {l : Launch} {e : Env} {s : State} {m : MethodId} {below : List Frame} {meth : Method} {c : Code} {b L : Nat} {xs : Nat → Int32} {D : va_G} {cI cC cZ cL cD : ClassId} {ad d ta : Nat → Nat} {qo qd : Nat} {Q : State → Prop} (hst : l.stackTraces = false) (C : LwC p s m c b L xs D cI cC cZ cL cD ad d ta qo qd) {S : St} {N : Nat} {H : Heap} {locs : List Loc} {cells slots j : Nat} {ls : Array Slot} (I : LwI D cI cC cZ cL cD ad d qo qd s S N H locs) (hj : 5 * j + 5 ≤ L) (hN : N + 2000 < 2 ^ 31) (hcap : cells + 1 ≤ room_1.cells ∧ slots + 6 ≤ room_1.slots) (hl : lv_has ls 10 [(5, .int (nI (5 * j))), (0, .ref (b)), (1, .ref (ad 0)), (2, .ref (d 0)), (3, .ref (qo)), (4, .ref (qd))]) (kk : ∀ (S1 : St) (H1 : Heap) (locs1 : List Loc) (ls1 : Array Slot), LwI D cI cC cZ cL cD ad d qo qd s S1 (N + 2000) H1 locs1 → lv_has ls1 10 [(5, .int (nI (5 * j))), (0, .ref (b)), (1, .ref (ad 0)), (2, .ref (d 0)), (3, .ref (qo)), (4, .ref (qd))] → W p l e room_1 s m #[Value.ref b] below meth c H1 locs1 (cells + 1) (slots + 6) Q (F0 m 2880 ls1 [])) : W p l e room_1 s m #[Value.ref b] below meth c H locs cells slots Q (F0 m 1790 ls []) := by
  obtain ⟨hx, hb, hml, hown, hG, hK, hE, hT, hZ, hX2, hX, hbl, hL, hap, hapd, hza, hzd, hzo, hzd2, hda, hqo, hqd, hdo, hdd, hne, had⟩ := C
  obtain ⟨hI, hW, ⟨th, hM⟩, ⟨fo, hPo⟩, ⟨gd, hPd⟩, hS⟩ := I
  have hb : c.code = cL_law := hb
  have hwr := fun (f : Nat → Int64) => wr_hasKey l hst D cI cC cL ad ta s.heap.size S N qo f (xs (5 * j + 1)) (xs (5 * j + 2)) hI hN hap hqo
  have hmd := fun (th : Int32) => m_hasKey l D cI cZ d S th (xs (5 * j + 1)) (xs (5 * j + 2)) hI hapd
  have hcd := cd_hasKey S (xs (5 * j + 1)) (xs (5 * j + 2))
  have hiv : Inv (sp_hasKey S (xs (5 * j + 1)) (xs (5 * j + 2))).2.2 := by rw [st_hasKey]; exact hI
  generalize sp_hasKey S (xs (5 * j + 1)) (xs (5 * j + 2)) = t at hwr hmd hcd hiv
  have hc9 : t.1 ≤ 3 := by
    rcases hcd with h | h
    · omega
    · have h9 := h.1
      omega
  refine lv_aload_n hx hb dL_law_1790 rfl (lv_at hl 2 rfl) ?_
  refine lv_aload_n hx hb dL_law_1791 rfl (lv_at hl 1 rfl) ?_
  refine lv_iload hx hb dL_law_1792 (lv_at hl 0 rfl) ?_
  refine lv_iconst (v := nI 1) hx hb dL_law_1794 (by decide) ?_
  refine x_iadd (v := nI ((5 * j) + 1)) hx hb dL_law_1795 (nI_add _ _) ?_
  refine x_sld hx hb hX hbl (fun z9 => absurd hbl (Nat.not_lt.mpr z9)) hS (i := (5 * j) + 1) (by omega) (by omega) dL_law_1796 ?_
  refine lv_aload_n hx hb dL_law_1797 rfl (lv_at hl 1 rfl) ?_
  refine lv_iload hx hb dL_law_1798 (lv_at hl 0 rfl) ?_
  refine lv_iconst (v := nI 2) hx hb dL_law_1800 (by decide) ?_
  refine x_iadd (v := nI ((5 * j) + 2)) hx hb dL_law_1801 (nI_add _ _) ?_
  refine x_sld hx hb hX hbl (fun z9 => absurd hbl (Nat.not_lt.mpr z9)) hS (i := (5 * j) + 2) (by omega) (by omega) dL_law_1802 ?_
  refine lv_aload_n hx hb dL_law_1803 rfl (lv_at hl 4 rfl) ?_
  refine k2_SW hx hb hml hown hG csw_L_224 (hwr fo) (by decide) (pzwS (hK.sub (tys' := [(cI, .int), (cC, .char), (cL, .long)]) [0, 1, 3] rfl) hE hT hZ hX2 hS.2.1 ⟨hW, hPo⟩) rfl hl.1 rfl (Nat.le_of_ble_eq_true rfl) dL_law_1804 hcap rfl hS (fun q z9 => z9.elim (fun ⟨i, hi, e9⟩ => e9 ▸ hza i hi) (fun e9 => e9 ▸ hzo)) (fun H locs hB9 hz hk hS => ?_)
  obtain ⟨hW, f9, hPo, hf⟩ := hB9
  have hM := hM.kept (fun i hi => hk _ (hM.lt hi) (fun z9 => z9.elim (hda i hi) (fun e9 => hdo ⟨i, hi, e9.symm⟩)))
  have hPd := oneK hPd (hk qd (va_lt hPd (k := 0) rfl) (fun z9 => z9.elim hqd (fun e9 => hne e9.symm)))
  refine lv_istore (lv' := [(6, .int (nI (t.1))), (5, .int (nI (5 * j))), (0, .ref (b)), (1, .ref (ad 0)), (2, .ref (d 0)), (3, .ref (qo)), (4, .ref (qd))]) hx hb dL_law_1807 hl (by decide) rfl (fun ls hl => ?_)
  refine lv_aload_n hx hb dL_law_1809 rfl (lv_at hl 4 rfl) ?_
  refine lv_aload_n hx hb dL_law_1810 rfl (lv_at hl 2 rfl) ?_
  refine lv_iload hx hb dL_law_1811 (lv_at hl 1 rfl) ?_
  refine lv_iconst (v := nI 1) hx hb dL_law_1813 (by decide) ?_
  refine x_iadd (v := nI ((5 * j) + 1)) hx hb dL_law_1814 (nI_add _ _) ?_
  refine x_sld hx hb hX hbl (fun z9 => absurd hbl (Nat.not_lt.mpr z9)) hS (i := (5 * j) + 1) (by omega) (by omega) dL_law_1815 ?_
  refine lv_aload_n hx hb dL_law_1816 rfl (lv_at hl 2 rfl) ?_
  refine lv_iload hx hb dL_law_1817 (lv_at hl 1 rfl) ?_
  refine lv_iconst (v := nI 2) hx hb dL_law_1819 (by decide) ?_
  refine x_iadd (v := nI ((5 * j) + 2)) hx hb dL_law_1820 (nI_add _ _) ?_
  refine x_sld hx hb hX hbl (fun z9 => absurd hbl (Nat.not_lt.mpr z9)) hS (i := (5 * j) + 2) (by omega) (by omega) dL_law_1821 ?_
  refine k2_V hx hb hml hown hG cs_L_226 (hmd th) (by decide) (pzV (hK.sub (tys' := [(cI, .int), (cZ, .boolean)]) [0, 2] rfl) rfl hM.rc hM) rfl hl.1 rfl (Nat.le_of_ble_eq_true rfl) dL_law_1822 ⟨hcap.1, hcap.2⟩ rfl hS (fun q ⟨i, hi, e9⟩ => e9 ▸ hzd i hi) (fun H locs hM hz hk hS => ?_)
  have hW := hW.kept (fun i hi => hk _ (hW.lt hi) (had i hi))
  have hPo := oneK hPo (hk qo (va_lt hPo (k := 0) rfl) hdo)
  have hPd := oneK hPd (hk qd (va_lt hPd (k := 0) rfl) hdd)
  refine lv_istore (lv' := [(7, .int (bI (t.2.1))), (6, .int (nI (t.1))), (5, .int (nI (5 * j))), (0, .ref (b)), (1, .ref (ad 0)), (2, .ref (d 0)), (3, .ref (qo)), (4, .ref (qd))]) hx hb dL_law_1825 hl (by decide) rfl (fun ls hl => ?_)
  refine lv_aload_n hx hb dL_law_1827 rfl (lv_at hl 5 rfl) ?_
  refine k1_V hx hb hml hown hG cs_L_151 (c5_thrown l D cI cZ d t.2.2 (nI t.1)) (by decide) (pzV (hK.sub (tys' := [(cI, .int), (cZ, .boolean)]) [0, 2] rfl) rfl hM.rc hM) rfl hl.1 rfl (Nat.le_of_ble_eq_true rfl) dL_law_1828 ⟨hcap.1, hcap.2⟩ rfl ?_
  refine lv_iload hx hb dL_law_1831 (lv_at hl 1 rfl) ?_
  refine x_cmp_eq (tgt := 1838) hx hb dL_law_1833 (by decide) (by omega) (by omega) (fun zc1 => ?_) (fun zc1 => False.elim (by exact absurd rfl zc1))
  refine lv_iload hx hb dL_law_1838 (lv_at hl 1 rfl) ?_
  refine x_if_ne (tgt := 1862) hx hb dL_law_1840 (by decide) (by omega) (fun c0 => ?_) (fun c0 => ?_)
  · refine lv_goto (tgt := 2880) hx hb dL_law_1862 (by decide) ?_
    exact kk t.2.2 _ _ ls ⟨hiv, hW, ⟨_, hM⟩, ⟨_, hPo⟩, ⟨_, hPd⟩, hS⟩ (lv_sub hl [2, 3, 4, 5, 6, 7] rfl)
  · refine lv_aload_n hx hb dL_law_1843 rfl (lv_at hl 6 rfl) ?_
    refine lv_iconst (v := nI 0) hx hb dL_law_1844 (by decide) ?_
    refine x_lald0 hx hb (hf c0) hK hPo 3 rfl dL_law_1845 ?_
    refine lv_iload hx hb dL_law_1846 (lv_at hl 0 rfl) ?_
    refine x_ifb_eq (tgt := 1855) hx hb dL_law_1848 (by decide) (fun c1 => ?_) (fun c1 => ?_)
    · refine lv_lconst (v := lN (0)) hx hb dL_law_1855 (by decide) ?_
      refine W.lcmp hx hb dL_law_1856 ?_
      refine x_lifo_eq (tgt := 1862) hx hb dL_law_1857 (by decide) (fun zc2 => ?_) (fun zc2 => False.elim (by exact absurd (by rw [c1]; rfl) zc2))
      refine lv_goto (tgt := 2880) hx hb dL_law_1862 (by decide) ?_
      exact kk t.2.2 _ _ ls ⟨hiv, hW, ⟨_, hM⟩, ⟨_, hPo⟩, ⟨_, hPd⟩, hS⟩ (lv_sub hl [2, 3, 4, 5, 6, 7] rfl)
    · refine lv_lconst (v := lN (1)) hx hb dL_law_1851 (by decide) ?_
      refine lv_goto (tgt := 1856) hx hb dL_law_1852 (by decide) ?_
      refine W.lcmp hx hb dL_law_1856 ?_
      refine x_lifo_eq (tgt := 1862) hx hb dL_law_1857 (by decide) (fun zc3 => ?_) (fun zc3 => False.elim (by exact absurd (by rw [c1]; rfl) zc3))
      refine lv_goto (tgt := 2880) hx hb dL_law_1862 (by decide) ?_
      exact kk t.2.2 _ _ ls ⟨hiv, hW, ⟨_, hM⟩, ⟨_, hPo⟩, ⟨_, hPd⟩, hS⟩ (lv_sub hl [2, 3, 4, 5, 6, 7] rfl)
set_option maxHeartbeats 4000000 in
set_option maxRecDepth 100000 in
theorem lc_hasValue {p : Program} {l : Launch} {e : Env} {s : State} {m : MethodId} {below : List Frame} {meth : Method} {c : Code} {b L : Nat} {xs : Nat → Int32} {D : va_G} {cI cC cZ cL cD : ClassId} {ad d ta : Nat → Nat} {qo qd : Nat} {Q : State → Prop} (hst : l.stackTraces = false) (C : LwC p s m c b L xs D cI cC cZ cL cD ad d ta qo qd) {S : St} {N : Nat} {H : Heap} {locs : List Loc} {cells slots j : Nat} {ls : Array Slot} (I : LwI D cI cC cZ cL cD ad d qo qd s S N H locs) (hj : 5 * j + 5 ≤ L) (hN : N + 2000 < 2 ^ 31) (hcap : cells + 1 ≤ room_1.cells ∧ slots + 6 ≤ room_1.slots) (hl : lv_has ls 10 [(5, .int (nI (5 * j))), (0, .ref (b)), (1, .ref (ad 0)), (2, .ref (d 0)), (3, .ref (qo)), (4, .ref (qd))]) (kk : ∀ (S1 : St) (H1 : Heap) (locs1 : List Loc) (ls1 : Array Slot), LwI D cI cC cZ cL cD ad d qo qd s S1 (N + 2000) H1 locs1 → lv_has ls1 10 [(5, .int (nI (5 * j))), (0, .ref (b)), (1, .ref (ad 0)), (2, .ref (d 0)), (3, .ref (qo)), (4, .ref (qd))] → W p l e room_1 s m #[Value.ref b] below meth c H1 locs1 (cells + 1) (slots + 6) Q (F0 m 2880 ls1 [])) : W p l e room_1 s m #[Value.ref b] below meth c H locs cells slots Q (F0 m 1865 ls []) := by
  obtain ⟨hx, hb, hml, hown, hG, hK, hE, hT, hZ, hX2, hX, hbl, hL, hap, hapd, hza, hzd, hzo, hzd2, hda, hqo, hqd, hdo, hdd, hne, had⟩ := C
  obtain ⟨hI, hW, ⟨th, hM⟩, ⟨fo, hPo⟩, ⟨gd, hPd⟩, hS⟩ := I
  have hb : c.code = cL_law := hb
  have hwr := fun (f : Nat → Int64) => wr_hasValue l hst D cI cC cL ad ta s.heap.size S N qo f (xs (5 * j + 1)) (xs (5 * j + 2)) hI hN hap hqo
  have hmd := fun (th : Int32) => m_hasValue l D cI cZ d S th (xs (5 * j + 1)) (xs (5 * j + 2)) hI hapd
  have hcd := cd_hasValue S (xs (5 * j + 1)) (xs (5 * j + 2))
  have hiv : Inv (sp_hasValue S (xs (5 * j + 1)) (xs (5 * j + 2))).2.2 := by rw [st_hasValue]; exact hI
  generalize sp_hasValue S (xs (5 * j + 1)) (xs (5 * j + 2)) = t at hwr hmd hcd hiv
  have hc9 : t.1 ≤ 3 := by
    rcases hcd with h | h
    · omega
    · have h9 := h.1
      omega
  refine lv_aload_n hx hb dL_law_1865 rfl (lv_at hl 2 rfl) ?_
  refine lv_aload_n hx hb dL_law_1866 rfl (lv_at hl 1 rfl) ?_
  refine lv_iload hx hb dL_law_1867 (lv_at hl 0 rfl) ?_
  refine lv_iconst (v := nI 1) hx hb dL_law_1869 (by decide) ?_
  refine x_iadd (v := nI ((5 * j) + 1)) hx hb dL_law_1870 (nI_add _ _) ?_
  refine x_sld hx hb hX hbl (fun z9 => absurd hbl (Nat.not_lt.mpr z9)) hS (i := (5 * j) + 1) (by omega) (by omega) dL_law_1871 ?_
  refine lv_aload_n hx hb dL_law_1872 rfl (lv_at hl 1 rfl) ?_
  refine lv_iload hx hb dL_law_1873 (lv_at hl 0 rfl) ?_
  refine lv_iconst (v := nI 2) hx hb dL_law_1875 (by decide) ?_
  refine x_iadd (v := nI ((5 * j) + 2)) hx hb dL_law_1876 (nI_add _ _) ?_
  refine x_sld hx hb hX hbl (fun z9 => absurd hbl (Nat.not_lt.mpr z9)) hS (i := (5 * j) + 2) (by omega) (by omega) dL_law_1877 ?_
  refine lv_aload_n hx hb dL_law_1878 rfl (lv_at hl 4 rfl) ?_
  refine k2_SW hx hb hml hown hG csw_L_227 (hwr fo) (by decide) (pzwS (hK.sub (tys' := [(cI, .int), (cC, .char), (cL, .long)]) [0, 1, 3] rfl) hE hT hZ hX2 hS.2.1 ⟨hW, hPo⟩) rfl hl.1 rfl (Nat.le_of_ble_eq_true rfl) dL_law_1879 hcap rfl hS (fun q z9 => z9.elim (fun ⟨i, hi, e9⟩ => e9 ▸ hza i hi) (fun e9 => e9 ▸ hzo)) (fun H locs hB9 hz hk hS => ?_)
  obtain ⟨hW, f9, hPo, hf⟩ := hB9
  have hM := hM.kept (fun i hi => hk _ (hM.lt hi) (fun z9 => z9.elim (hda i hi) (fun e9 => hdo ⟨i, hi, e9.symm⟩)))
  have hPd := oneK hPd (hk qd (va_lt hPd (k := 0) rfl) (fun z9 => z9.elim hqd (fun e9 => hne e9.symm)))
  refine lv_istore (lv' := [(6, .int (nI (t.1))), (5, .int (nI (5 * j))), (0, .ref (b)), (1, .ref (ad 0)), (2, .ref (d 0)), (3, .ref (qo)), (4, .ref (qd))]) hx hb dL_law_1882 hl (by decide) rfl (fun ls hl => ?_)
  refine lv_aload_n hx hb dL_law_1884 rfl (lv_at hl 4 rfl) ?_
  refine lv_aload_n hx hb dL_law_1885 rfl (lv_at hl 2 rfl) ?_
  refine lv_iload hx hb dL_law_1886 (lv_at hl 1 rfl) ?_
  refine lv_iconst (v := nI 1) hx hb dL_law_1888 (by decide) ?_
  refine x_iadd (v := nI ((5 * j) + 1)) hx hb dL_law_1889 (nI_add _ _) ?_
  refine x_sld hx hb hX hbl (fun z9 => absurd hbl (Nat.not_lt.mpr z9)) hS (i := (5 * j) + 1) (by omega) (by omega) dL_law_1890 ?_
  refine lv_aload_n hx hb dL_law_1891 rfl (lv_at hl 2 rfl) ?_
  refine lv_iload hx hb dL_law_1892 (lv_at hl 1 rfl) ?_
  refine lv_iconst (v := nI 2) hx hb dL_law_1894 (by decide) ?_
  refine x_iadd (v := nI ((5 * j) + 2)) hx hb dL_law_1895 (nI_add _ _) ?_
  refine x_sld hx hb hX hbl (fun z9 => absurd hbl (Nat.not_lt.mpr z9)) hS (i := (5 * j) + 2) (by omega) (by omega) dL_law_1896 ?_
  refine k2_V hx hb hml hown hG cs_L_229 (hmd th) (by decide) (pzV (hK.sub (tys' := [(cI, .int), (cZ, .boolean)]) [0, 2] rfl) rfl hM.rc hM) rfl hl.1 rfl (Nat.le_of_ble_eq_true rfl) dL_law_1897 ⟨hcap.1, hcap.2⟩ rfl hS (fun q ⟨i, hi, e9⟩ => e9 ▸ hzd i hi) (fun H locs hM hz hk hS => ?_)
  have hW := hW.kept (fun i hi => hk _ (hW.lt hi) (had i hi))
  have hPo := oneK hPo (hk qo (va_lt hPo (k := 0) rfl) hdo)
  have hPd := oneK hPd (hk qd (va_lt hPd (k := 0) rfl) hdd)
  refine lv_istore (lv' := [(7, .int (bI (t.2.1))), (6, .int (nI (t.1))), (5, .int (nI (5 * j))), (0, .ref (b)), (1, .ref (ad 0)), (2, .ref (d 0)), (3, .ref (qo)), (4, .ref (qd))]) hx hb dL_law_1900 hl (by decide) rfl (fun ls hl => ?_)
  refine lv_aload_n hx hb dL_law_1902 rfl (lv_at hl 5 rfl) ?_
  refine k1_V hx hb hml hown hG cs_L_151 (c5_thrown l D cI cZ d t.2.2 (nI t.1)) (by decide) (pzV (hK.sub (tys' := [(cI, .int), (cZ, .boolean)]) [0, 2] rfl) rfl hM.rc hM) rfl hl.1 rfl (Nat.le_of_ble_eq_true rfl) dL_law_1903 ⟨hcap.1, hcap.2⟩ rfl ?_
  refine lv_iload hx hb dL_law_1906 (lv_at hl 1 rfl) ?_
  refine x_cmp_eq (tgt := 1913) hx hb dL_law_1908 (by decide) (by omega) (by omega) (fun zc1 => ?_) (fun zc1 => False.elim (by exact absurd rfl zc1))
  refine lv_iload hx hb dL_law_1913 (lv_at hl 1 rfl) ?_
  refine x_if_ne (tgt := 1937) hx hb dL_law_1915 (by decide) (by omega) (fun c0 => ?_) (fun c0 => ?_)
  · refine lv_goto (tgt := 2880) hx hb dL_law_1937 (by decide) ?_
    exact kk t.2.2 _ _ ls ⟨hiv, hW, ⟨_, hM⟩, ⟨_, hPo⟩, ⟨_, hPd⟩, hS⟩ (lv_sub hl [2, 3, 4, 5, 6, 7] rfl)
  · refine lv_aload_n hx hb dL_law_1918 rfl (lv_at hl 6 rfl) ?_
    refine lv_iconst (v := nI 0) hx hb dL_law_1919 (by decide) ?_
    refine x_lald0 hx hb (hf c0) hK hPo 3 rfl dL_law_1920 ?_
    refine lv_iload hx hb dL_law_1921 (lv_at hl 0 rfl) ?_
    refine x_ifb_eq (tgt := 1930) hx hb dL_law_1923 (by decide) (fun c1 => ?_) (fun c1 => ?_)
    · refine lv_lconst (v := lN (0)) hx hb dL_law_1930 (by decide) ?_
      refine W.lcmp hx hb dL_law_1931 ?_
      refine x_lifo_eq (tgt := 1937) hx hb dL_law_1932 (by decide) (fun zc2 => ?_) (fun zc2 => False.elim (by exact absurd (by rw [c1]; rfl) zc2))
      refine lv_goto (tgt := 2880) hx hb dL_law_1937 (by decide) ?_
      exact kk t.2.2 _ _ ls ⟨hiv, hW, ⟨_, hM⟩, ⟨_, hPo⟩, ⟨_, hPd⟩, hS⟩ (lv_sub hl [2, 3, 4, 5, 6, 7] rfl)
    · refine lv_lconst (v := lN (1)) hx hb dL_law_1926 (by decide) ?_
      refine lv_goto (tgt := 1931) hx hb dL_law_1927 (by decide) ?_
      refine W.lcmp hx hb dL_law_1931 ?_
      refine x_lifo_eq (tgt := 1937) hx hb dL_law_1932 (by decide) (fun zc3 => ?_) (fun zc3 => False.elim (by exact absurd (by rw [c1]; rfl) zc3))
      refine lv_goto (tgt := 2880) hx hb dL_law_1937 (by decide) ?_
      exact kk t.2.2 _ _ ls ⟨hiv, hW, ⟨_, hM⟩, ⟨_, hPo⟩, ⟨_, hPd⟩, hS⟩ (lv_sub hl [2, 3, 4, 5, 6, 7] rfl)
set_option maxHeartbeats 4000000 in
set_option maxRecDepth 100000 in
theorem lc_get {p : Program} {l : Launch} {e : Env} {s : State} {m : MethodId} {below : List Frame} {meth : Method} {c : Code} {b L : Nat} {xs : Nat → Int32} {D : va_G} {cI cC cZ cL cD : ClassId} {ad d ta : Nat → Nat} {qo qd : Nat} {Q : State → Prop} (hst : l.stackTraces = false) (C : LwC p s m c b L xs D cI cC cZ cL cD ad d ta qo qd) {S : St} {N : Nat} {H : Heap} {locs : List Loc} {cells slots j : Nat} {ls : Array Slot} (I : LwI D cI cC cZ cL cD ad d qo qd s S N H locs) (hj : 5 * j + 5 ≤ L) (hN : N + 2000 < 2 ^ 31) (hcap : cells + 1 ≤ room_1.cells ∧ slots + 6 ≤ room_1.slots) (hl : lv_has ls 10 [(5, .int (nI (5 * j))), (0, .ref (b)), (1, .ref (ad 0)), (2, .ref (d 0)), (3, .ref (qo)), (4, .ref (qd))]) (kk : ∀ (S1 : St) (H1 : Heap) (locs1 : List Loc) (ls1 : Array Slot), LwI D cI cC cZ cL cD ad d qo qd s S1 (N + 2000) H1 locs1 → lv_has ls1 10 [(5, .int (nI (5 * j))), (0, .ref (b)), (1, .ref (ad 0)), (2, .ref (d 0)), (3, .ref (qo)), (4, .ref (qd))] → W p l e room_1 s m #[Value.ref b] below meth c H1 locs1 (cells + 1) (slots + 6) Q (F0 m 2880 ls1 [])) : W p l e room_1 s m #[Value.ref b] below meth c H locs cells slots Q (F0 m 1940 ls []) := by
  obtain ⟨hx, hb, hml, hown, hG, hK, hE, hT, hZ, hX2, hX, hbl, hL, hap, hapd, hza, hzd, hzo, hzd2, hda, hqo, hqd, hdo, hdd, hne, had⟩ := C
  obtain ⟨hI, hW, ⟨th, hM⟩, ⟨fo, hPo⟩, ⟨gd, hPd⟩, hS⟩ := I
  have hb : c.code = cL_law := hb
  have hwr := fun (f : Nat → Int64) => wr_get l hst D cI cC cL ad ta s.heap.size S N qo f (xs (5 * j + 1)) (xs (5 * j + 2)) (xs (5 * j + 3)) hI hN hap hqo
  have hmd := fun (th : Int32) => m_get l D cI cZ d S th (xs (5 * j + 1)) (xs (5 * j + 2)) (xs (5 * j + 3)) hI hapd
  have hcd := cd_get S (xs (5 * j + 1)) (xs (5 * j + 2)) (xs (5 * j + 3))
  have hiv : Inv (sp_get S (xs (5 * j + 1)) (xs (5 * j + 2)) (xs (5 * j + 3))).2.2 := by rw [st_get]; exact hI
  generalize sp_get S (xs (5 * j + 1)) (xs (5 * j + 2)) (xs (5 * j + 3)) = t at hwr hmd hcd hiv
  have hc9 : t.1 ≤ 3 := by
    rcases hcd with h | h
    · omega
    · have h9 := h.1
      omega
  refine lv_aload_n hx hb dL_law_1940 rfl (lv_at hl 2 rfl) ?_
  refine lv_aload_n hx hb dL_law_1941 rfl (lv_at hl 1 rfl) ?_
  refine lv_iload hx hb dL_law_1942 (lv_at hl 0 rfl) ?_
  refine lv_iconst (v := nI 1) hx hb dL_law_1944 (by decide) ?_
  refine x_iadd (v := nI ((5 * j) + 1)) hx hb dL_law_1945 (nI_add _ _) ?_
  refine x_sld hx hb hX hbl (fun z9 => absurd hbl (Nat.not_lt.mpr z9)) hS (i := (5 * j) + 1) (by omega) (by omega) dL_law_1946 ?_
  refine lv_aload_n hx hb dL_law_1947 rfl (lv_at hl 1 rfl) ?_
  refine lv_iload hx hb dL_law_1948 (lv_at hl 0 rfl) ?_
  refine lv_iconst (v := nI 2) hx hb dL_law_1950 (by decide) ?_
  refine x_iadd (v := nI ((5 * j) + 2)) hx hb dL_law_1951 (nI_add _ _) ?_
  refine x_sld hx hb hX hbl (fun z9 => absurd hbl (Nat.not_lt.mpr z9)) hS (i := (5 * j) + 2) (by omega) (by omega) dL_law_1952 ?_
  refine lv_aload_n hx hb dL_law_1953 rfl (lv_at hl 1 rfl) ?_
  refine lv_iload hx hb dL_law_1954 (lv_at hl 0 rfl) ?_
  refine lv_iconst (v := nI 3) hx hb dL_law_1956 (by decide) ?_
  refine x_iadd (v := nI ((5 * j) + 3)) hx hb dL_law_1957 (nI_add _ _) ?_
  refine x_sld hx hb hX hbl (fun z9 => absurd hbl (Nat.not_lt.mpr z9)) hS (i := (5 * j) + 3) (by omega) (by omega) dL_law_1958 ?_
  refine lv_aload_n hx hb dL_law_1959 rfl (lv_at hl 4 rfl) ?_
  refine k2_SW hx hb hml hown hG csw_L_230 (hwr fo) (by decide) (pzwS (hK.sub (tys' := [(cI, .int), (cC, .char), (cL, .long)]) [0, 1, 3] rfl) hE hT hZ hX2 hS.2.1 ⟨hW, hPo⟩) rfl hl.1 rfl (Nat.le_of_ble_eq_true rfl) dL_law_1960 hcap rfl hS (fun q z9 => z9.elim (fun ⟨i, hi, e9⟩ => e9 ▸ hza i hi) (fun e9 => e9 ▸ hzo)) (fun H locs hB9 hz hk hS => ?_)
  obtain ⟨hW, f9, hPo, hf⟩ := hB9
  have hM := hM.kept (fun i hi => hk _ (hM.lt hi) (fun z9 => z9.elim (hda i hi) (fun e9 => hdo ⟨i, hi, e9.symm⟩)))
  have hPd := oneK hPd (hk qd (va_lt hPd (k := 0) rfl) (fun z9 => z9.elim hqd (fun e9 => hne e9.symm)))
  refine lv_istore (lv' := [(6, .int (nI (t.1))), (5, .int (nI (5 * j))), (0, .ref (b)), (1, .ref (ad 0)), (2, .ref (d 0)), (3, .ref (qo)), (4, .ref (qd))]) hx hb dL_law_1963 hl (by decide) rfl (fun ls hl => ?_)
  refine lv_aload_n hx hb dL_law_1965 rfl (lv_at hl 4 rfl) ?_
  refine lv_aload_n hx hb dL_law_1966 rfl (lv_at hl 2 rfl) ?_
  refine lv_iload hx hb dL_law_1967 (lv_at hl 1 rfl) ?_
  refine lv_iconst (v := nI 1) hx hb dL_law_1969 (by decide) ?_
  refine x_iadd (v := nI ((5 * j) + 1)) hx hb dL_law_1970 (nI_add _ _) ?_
  refine x_sld hx hb hX hbl (fun z9 => absurd hbl (Nat.not_lt.mpr z9)) hS (i := (5 * j) + 1) (by omega) (by omega) dL_law_1971 ?_
  refine lv_aload_n hx hb dL_law_1972 rfl (lv_at hl 2 rfl) ?_
  refine lv_iload hx hb dL_law_1973 (lv_at hl 1 rfl) ?_
  refine lv_iconst (v := nI 2) hx hb dL_law_1975 (by decide) ?_
  refine x_iadd (v := nI ((5 * j) + 2)) hx hb dL_law_1976 (nI_add _ _) ?_
  refine x_sld hx hb hX hbl (fun z9 => absurd hbl (Nat.not_lt.mpr z9)) hS (i := (5 * j) + 2) (by omega) (by omega) dL_law_1977 ?_
  refine lv_aload_n hx hb dL_law_1978 rfl (lv_at hl 2 rfl) ?_
  refine lv_iload hx hb dL_law_1979 (lv_at hl 1 rfl) ?_
  refine lv_iconst (v := nI 3) hx hb dL_law_1981 (by decide) ?_
  refine x_iadd (v := nI ((5 * j) + 3)) hx hb dL_law_1982 (nI_add _ _) ?_
  refine x_sld hx hb hX hbl (fun z9 => absurd hbl (Nat.not_lt.mpr z9)) hS (i := (5 * j) + 3) (by omega) (by omega) dL_law_1983 ?_
  refine k2_V hx hb hml hown hG cs_L_232 (hmd th) (by decide) (pzV (hK.sub (tys' := [(cI, .int), (cZ, .boolean)]) [0, 2] rfl) rfl hM.rc hM) rfl hl.1 rfl (Nat.le_of_ble_eq_true rfl) dL_law_1984 ⟨hcap.1, hcap.2⟩ rfl hS (fun q ⟨i, hi, e9⟩ => e9 ▸ hzd i hi) (fun H locs hM hz hk hS => ?_)
  have hW := hW.kept (fun i hi => hk _ (hW.lt hi) (had i hi))
  have hPo := oneK hPo (hk qo (va_lt hPo (k := 0) rfl) hdo)
  have hPd := oneK hPd (hk qd (va_lt hPd (k := 0) rfl) hdd)
  refine lv_istore (lv' := [(7, .int (t.2.1)), (6, .int (nI (t.1))), (5, .int (nI (5 * j))), (0, .ref (b)), (1, .ref (ad 0)), (2, .ref (d 0)), (3, .ref (qo)), (4, .ref (qd))]) hx hb dL_law_1987 hl (by decide) rfl (fun ls hl => ?_)
  refine lv_aload_n hx hb dL_law_1989 rfl (lv_at hl 5 rfl) ?_
  refine k1_V hx hb hml hown hG cs_L_151 (c5_thrown l D cI cZ d t.2.2 (nI t.1)) (by decide) (pzV (hK.sub (tys' := [(cI, .int), (cZ, .boolean)]) [0, 2] rfl) rfl hM.rc hM) rfl hl.1 rfl (Nat.le_of_ble_eq_true rfl) dL_law_1990 ⟨hcap.1, hcap.2⟩ rfl ?_
  refine lv_iload hx hb dL_law_1993 (lv_at hl 1 rfl) ?_
  refine x_cmp_eq (tgt := 2000) hx hb dL_law_1995 (by decide) (by omega) (by omega) (fun zc1 => ?_) (fun zc1 => False.elim (by exact absurd rfl zc1))
  refine lv_iload hx hb dL_law_2000 (lv_at hl 1 rfl) ?_
  refine x_if_ne (tgt := 2017) hx hb dL_law_2002 (by decide) (by omega) (fun c0 => ?_) (fun c0 => ?_)
  · refine lv_goto (tgt := 2880) hx hb dL_law_2017 (by decide) ?_
    exact kk t.2.2 _ _ ls ⟨hiv, hW, ⟨_, hM⟩, ⟨_, hPo⟩, ⟨_, hPd⟩, hS⟩ (lv_sub hl [2, 3, 4, 5, 6, 7] rfl)
  · refine lv_aload_n hx hb dL_law_2005 rfl (lv_at hl 6 rfl) ?_
    refine lv_iconst (v := nI 0) hx hb dL_law_2006 (by decide) ?_
    refine x_lald0 hx hb (hf c0) hK hPo 3 rfl dL_law_2007 ?_
    refine lv_iload hx hb dL_law_2008 (lv_at hl 0 rfl) ?_
    refine lv_i2l (v := Int32.toInt64 t.2.1) hx hb dL_law_2010 rfl ?_
    refine W.lcmp hx hb dL_law_2011 ?_
    refine x_lifo_eq (tgt := 2017) hx hb dL_law_2012 (by decide) (fun zc2 => ?_) (fun zc2 => False.elim (by exact absurd rfl zc2))
    refine lv_goto (tgt := 2880) hx hb dL_law_2017 (by decide) ?_
    exact kk t.2.2 _ _ ls ⟨hiv, hW, ⟨_, hM⟩, ⟨_, hPo⟩, ⟨_, hPd⟩, hS⟩ (lv_sub hl [2, 3, 4, 5, 6, 7] rfl)
set_option maxHeartbeats 4000000 in
set_option maxRecDepth 100000 in
theorem lc_keyAt {p : Program} {l : Launch} {e : Env} {s : State} {m : MethodId} {below : List Frame} {meth : Method} {c : Code} {b L : Nat} {xs : Nat → Int32} {D : va_G} {cI cC cZ cL cD : ClassId} {ad d ta : Nat → Nat} {qo qd : Nat} {Q : State → Prop} (hst : l.stackTraces = false) (C : LwC p s m c b L xs D cI cC cZ cL cD ad d ta qo qd) {S : St} {N : Nat} {H : Heap} {locs : List Loc} {cells slots j : Nat} {ls : Array Slot} (I : LwI D cI cC cZ cL cD ad d qo qd s S N H locs) (hj : 5 * j + 5 ≤ L) (hN : N + 2000 < 2 ^ 31) (hcap : cells + 1 ≤ room_1.cells ∧ slots + 6 ≤ room_1.slots) (hl : lv_has ls 10 [(5, .int (nI (5 * j))), (0, .ref (b)), (1, .ref (ad 0)), (2, .ref (d 0)), (3, .ref (qo)), (4, .ref (qd))]) (kk : ∀ (S1 : St) (H1 : Heap) (locs1 : List Loc) (ls1 : Array Slot), LwI D cI cC cZ cL cD ad d qo qd s S1 (N + 2000) H1 locs1 → lv_has ls1 10 [(5, .int (nI (5 * j))), (0, .ref (b)), (1, .ref (ad 0)), (2, .ref (d 0)), (3, .ref (qo)), (4, .ref (qd))] → W p l e room_1 s m #[Value.ref b] below meth c H1 locs1 (cells + 1) (slots + 6) Q (F0 m 2880 ls1 [])) : W p l e room_1 s m #[Value.ref b] below meth c H locs cells slots Q (F0 m 2020 ls []) := by
  obtain ⟨hx, hb, hml, hown, hG, hK, hE, hT, hZ, hX2, hX, hbl, hL, hap, hapd, hza, hzd, hzo, hzd2, hda, hqo, hqd, hdo, hdd, hne, had⟩ := C
  obtain ⟨hI, hW, ⟨th, hM⟩, ⟨fo, hPo⟩, ⟨gd, hPd⟩, hS⟩ := I
  have hb : c.code = cL_law := hb
  have hwr := fun (f : Nat → Int64) => wr_keyAt l hst D cI cC cL ad ta s.heap.size S N qo f (xs (5 * j + 1)) (xs (5 * j + 2)) hI hN hap hqo
  have hmd := fun (th : Int32) => m_keyAt l D cI cZ d S th (xs (5 * j + 1)) (xs (5 * j + 2)) hI hapd
  have hcd := cd_keyAt S (xs (5 * j + 1)) (xs (5 * j + 2))
  have hiv : Inv (sp_keyAt S (xs (5 * j + 1)) (xs (5 * j + 2))).2.2 := by rw [st_keyAt]; exact hI
  generalize sp_keyAt S (xs (5 * j + 1)) (xs (5 * j + 2)) = t at hwr hmd hcd hiv
  have hc9 : t.1 ≤ 3 := by
    rcases hcd with h | h
    · omega
    · have h9 := h.1
      omega
  refine lv_aload_n hx hb dL_law_2020 rfl (lv_at hl 2 rfl) ?_
  refine lv_aload_n hx hb dL_law_2021 rfl (lv_at hl 1 rfl) ?_
  refine lv_iload hx hb dL_law_2022 (lv_at hl 0 rfl) ?_
  refine lv_iconst (v := nI 1) hx hb dL_law_2024 (by decide) ?_
  refine x_iadd (v := nI ((5 * j) + 1)) hx hb dL_law_2025 (nI_add _ _) ?_
  refine x_sld hx hb hX hbl (fun z9 => absurd hbl (Nat.not_lt.mpr z9)) hS (i := (5 * j) + 1) (by omega) (by omega) dL_law_2026 ?_
  refine lv_aload_n hx hb dL_law_2027 rfl (lv_at hl 1 rfl) ?_
  refine lv_iload hx hb dL_law_2028 (lv_at hl 0 rfl) ?_
  refine lv_iconst (v := nI 2) hx hb dL_law_2030 (by decide) ?_
  refine x_iadd (v := nI ((5 * j) + 2)) hx hb dL_law_2031 (nI_add _ _) ?_
  refine x_sld hx hb hX hbl (fun z9 => absurd hbl (Nat.not_lt.mpr z9)) hS (i := (5 * j) + 2) (by omega) (by omega) dL_law_2032 ?_
  refine lv_aload_n hx hb dL_law_2033 rfl (lv_at hl 4 rfl) ?_
  refine k2_SW hx hb hml hown hG csw_L_233 (hwr fo) (by decide) (pzwS (hK.sub (tys' := [(cI, .int), (cC, .char), (cL, .long)]) [0, 1, 3] rfl) hE hT hZ hX2 hS.2.1 ⟨hW, hPo⟩) rfl hl.1 rfl (Nat.le_of_ble_eq_true rfl) dL_law_2034 hcap rfl hS (fun q z9 => z9.elim (fun ⟨i, hi, e9⟩ => e9 ▸ hza i hi) (fun e9 => e9 ▸ hzo)) (fun H locs hB9 hz hk hS => ?_)
  obtain ⟨hW, f9, hPo, hf⟩ := hB9
  have hM := hM.kept (fun i hi => hk _ (hM.lt hi) (fun z9 => z9.elim (hda i hi) (fun e9 => hdo ⟨i, hi, e9.symm⟩)))
  have hPd := oneK hPd (hk qd (va_lt hPd (k := 0) rfl) (fun z9 => z9.elim hqd (fun e9 => hne e9.symm)))
  refine lv_istore (lv' := [(6, .int (nI (t.1))), (5, .int (nI (5 * j))), (0, .ref (b)), (1, .ref (ad 0)), (2, .ref (d 0)), (3, .ref (qo)), (4, .ref (qd))]) hx hb dL_law_2037 hl (by decide) rfl (fun ls hl => ?_)
  refine lv_aload_n hx hb dL_law_2039 rfl (lv_at hl 4 rfl) ?_
  refine lv_aload_n hx hb dL_law_2040 rfl (lv_at hl 2 rfl) ?_
  refine lv_iload hx hb dL_law_2041 (lv_at hl 1 rfl) ?_
  refine lv_iconst (v := nI 1) hx hb dL_law_2043 (by decide) ?_
  refine x_iadd (v := nI ((5 * j) + 1)) hx hb dL_law_2044 (nI_add _ _) ?_
  refine x_sld hx hb hX hbl (fun z9 => absurd hbl (Nat.not_lt.mpr z9)) hS (i := (5 * j) + 1) (by omega) (by omega) dL_law_2045 ?_
  refine lv_aload_n hx hb dL_law_2046 rfl (lv_at hl 2 rfl) ?_
  refine lv_iload hx hb dL_law_2047 (lv_at hl 1 rfl) ?_
  refine lv_iconst (v := nI 2) hx hb dL_law_2049 (by decide) ?_
  refine x_iadd (v := nI ((5 * j) + 2)) hx hb dL_law_2050 (nI_add _ _) ?_
  refine x_sld hx hb hX hbl (fun z9 => absurd hbl (Nat.not_lt.mpr z9)) hS (i := (5 * j) + 2) (by omega) (by omega) dL_law_2051 ?_
  refine k2_V hx hb hml hown hG cs_L_235 (hmd th) (by decide) (pzV (hK.sub (tys' := [(cI, .int), (cZ, .boolean)]) [0, 2] rfl) rfl hM.rc hM) rfl hl.1 rfl (Nat.le_of_ble_eq_true rfl) dL_law_2052 ⟨hcap.1, hcap.2⟩ rfl hS (fun q ⟨i, hi, e9⟩ => e9 ▸ hzd i hi) (fun H locs hM hz hk hS => ?_)
  have hW := hW.kept (fun i hi => hk _ (hW.lt hi) (had i hi))
  have hPo := oneK hPo (hk qo (va_lt hPo (k := 0) rfl) hdo)
  have hPd := oneK hPd (hk qd (va_lt hPd (k := 0) rfl) hdd)
  refine lv_istore (lv' := [(7, .int (t.2.1)), (6, .int (nI (t.1))), (5, .int (nI (5 * j))), (0, .ref (b)), (1, .ref (ad 0)), (2, .ref (d 0)), (3, .ref (qo)), (4, .ref (qd))]) hx hb dL_law_2055 hl (by decide) rfl (fun ls hl => ?_)
  refine lv_aload_n hx hb dL_law_2057 rfl (lv_at hl 5 rfl) ?_
  refine k1_V hx hb hml hown hG cs_L_151 (c5_thrown l D cI cZ d t.2.2 (nI t.1)) (by decide) (pzV (hK.sub (tys' := [(cI, .int), (cZ, .boolean)]) [0, 2] rfl) rfl hM.rc hM) rfl hl.1 rfl (Nat.le_of_ble_eq_true rfl) dL_law_2058 ⟨hcap.1, hcap.2⟩ rfl ?_
  refine lv_iload hx hb dL_law_2061 (lv_at hl 1 rfl) ?_
  refine x_cmp_eq (tgt := 2068) hx hb dL_law_2063 (by decide) (by omega) (by omega) (fun zc1 => ?_) (fun zc1 => False.elim (by exact absurd rfl zc1))
  refine lv_iload hx hb dL_law_2068 (lv_at hl 1 rfl) ?_
  refine x_if_ne (tgt := 2085) hx hb dL_law_2070 (by decide) (by omega) (fun c0 => ?_) (fun c0 => ?_)
  · refine lv_goto (tgt := 2880) hx hb dL_law_2085 (by decide) ?_
    exact kk t.2.2 _ _ ls ⟨hiv, hW, ⟨_, hM⟩, ⟨_, hPo⟩, ⟨_, hPd⟩, hS⟩ (lv_sub hl [2, 3, 4, 5, 6, 7] rfl)
  · refine lv_aload_n hx hb dL_law_2073 rfl (lv_at hl 6 rfl) ?_
    refine lv_iconst (v := nI 0) hx hb dL_law_2074 (by decide) ?_
    refine x_lald0 hx hb (hf c0) hK hPo 3 rfl dL_law_2075 ?_
    refine lv_iload hx hb dL_law_2076 (lv_at hl 0 rfl) ?_
    refine lv_i2l (v := Int32.toInt64 t.2.1) hx hb dL_law_2078 rfl ?_
    refine W.lcmp hx hb dL_law_2079 ?_
    refine x_lifo_eq (tgt := 2085) hx hb dL_law_2080 (by decide) (fun zc2 => ?_) (fun zc2 => False.elim (by exact absurd rfl zc2))
    refine lv_goto (tgt := 2880) hx hb dL_law_2085 (by decide) ?_
    exact kk t.2.2 _ _ ls ⟨hiv, hW, ⟨_, hM⟩, ⟨_, hPo⟩, ⟨_, hPd⟩, hS⟩ (lv_sub hl [2, 3, 4, 5, 6, 7] rfl)
set_option maxHeartbeats 4000000 in
set_option maxRecDepth 100000 in
theorem lc_valueAt {p : Program} {l : Launch} {e : Env} {s : State} {m : MethodId} {below : List Frame} {meth : Method} {c : Code} {b L : Nat} {xs : Nat → Int32} {D : va_G} {cI cC cZ cL cD : ClassId} {ad d ta : Nat → Nat} {qo qd : Nat} {Q : State → Prop} (hst : l.stackTraces = false) (C : LwC p s m c b L xs D cI cC cZ cL cD ad d ta qo qd) {S : St} {N : Nat} {H : Heap} {locs : List Loc} {cells slots j : Nat} {ls : Array Slot} (I : LwI D cI cC cZ cL cD ad d qo qd s S N H locs) (hj : 5 * j + 5 ≤ L) (hN : N + 2000 < 2 ^ 31) (hcap : cells + 1 ≤ room_1.cells ∧ slots + 6 ≤ room_1.slots) (hl : lv_has ls 10 [(5, .int (nI (5 * j))), (0, .ref (b)), (1, .ref (ad 0)), (2, .ref (d 0)), (3, .ref (qo)), (4, .ref (qd))]) (kk : ∀ (S1 : St) (H1 : Heap) (locs1 : List Loc) (ls1 : Array Slot), LwI D cI cC cZ cL cD ad d qo qd s S1 (N + 2000) H1 locs1 → lv_has ls1 10 [(5, .int (nI (5 * j))), (0, .ref (b)), (1, .ref (ad 0)), (2, .ref (d 0)), (3, .ref (qo)), (4, .ref (qd))] → W p l e room_1 s m #[Value.ref b] below meth c H1 locs1 (cells + 1) (slots + 6) Q (F0 m 2880 ls1 [])) : W p l e room_1 s m #[Value.ref b] below meth c H locs cells slots Q (F0 m 2088 ls []) := by
  obtain ⟨hx, hb, hml, hown, hG, hK, hE, hT, hZ, hX2, hX, hbl, hL, hap, hapd, hza, hzd, hzo, hzd2, hda, hqo, hqd, hdo, hdd, hne, had⟩ := C
  obtain ⟨hI, hW, ⟨th, hM⟩, ⟨fo, hPo⟩, ⟨gd, hPd⟩, hS⟩ := I
  have hb : c.code = cL_law := hb
  have hwr := fun (f : Nat → Int64) => wr_valueAt l hst D cI cC cL ad ta s.heap.size S N qo f (xs (5 * j + 1)) (xs (5 * j + 2)) hI hN hap hqo
  have hmd := fun (th : Int32) => m_valueAt l D cI cZ d S th (xs (5 * j + 1)) (xs (5 * j + 2)) hI hapd
  have hcd := cd_valueAt S (xs (5 * j + 1)) (xs (5 * j + 2))
  have hiv : Inv (sp_valueAt S (xs (5 * j + 1)) (xs (5 * j + 2))).2.2 := by rw [st_valueAt]; exact hI
  generalize sp_valueAt S (xs (5 * j + 1)) (xs (5 * j + 2)) = t at hwr hmd hcd hiv
  have hc9 : t.1 ≤ 3 := by
    rcases hcd with h | h
    · omega
    · have h9 := h.1
      omega
  refine lv_aload_n hx hb dL_law_2088 rfl (lv_at hl 2 rfl) ?_
  refine lv_aload_n hx hb dL_law_2089 rfl (lv_at hl 1 rfl) ?_
  refine lv_iload hx hb dL_law_2090 (lv_at hl 0 rfl) ?_
  refine lv_iconst (v := nI 1) hx hb dL_law_2092 (by decide) ?_
  refine x_iadd (v := nI ((5 * j) + 1)) hx hb dL_law_2093 (nI_add _ _) ?_
  refine x_sld hx hb hX hbl (fun z9 => absurd hbl (Nat.not_lt.mpr z9)) hS (i := (5 * j) + 1) (by omega) (by omega) dL_law_2094 ?_
  refine lv_aload_n hx hb dL_law_2095 rfl (lv_at hl 1 rfl) ?_
  refine lv_iload hx hb dL_law_2096 (lv_at hl 0 rfl) ?_
  refine lv_iconst (v := nI 2) hx hb dL_law_2098 (by decide) ?_
  refine x_iadd (v := nI ((5 * j) + 2)) hx hb dL_law_2099 (nI_add _ _) ?_
  refine x_sld hx hb hX hbl (fun z9 => absurd hbl (Nat.not_lt.mpr z9)) hS (i := (5 * j) + 2) (by omega) (by omega) dL_law_2100 ?_
  refine lv_aload_n hx hb dL_law_2101 rfl (lv_at hl 4 rfl) ?_
  refine k2_SW hx hb hml hown hG csw_L_236 (hwr fo) (by decide) (pzwS (hK.sub (tys' := [(cI, .int), (cC, .char), (cL, .long)]) [0, 1, 3] rfl) hE hT hZ hX2 hS.2.1 ⟨hW, hPo⟩) rfl hl.1 rfl (Nat.le_of_ble_eq_true rfl) dL_law_2102 hcap rfl hS (fun q z9 => z9.elim (fun ⟨i, hi, e9⟩ => e9 ▸ hza i hi) (fun e9 => e9 ▸ hzo)) (fun H locs hB9 hz hk hS => ?_)
  obtain ⟨hW, f9, hPo, hf⟩ := hB9
  have hM := hM.kept (fun i hi => hk _ (hM.lt hi) (fun z9 => z9.elim (hda i hi) (fun e9 => hdo ⟨i, hi, e9.symm⟩)))
  have hPd := oneK hPd (hk qd (va_lt hPd (k := 0) rfl) (fun z9 => z9.elim hqd (fun e9 => hne e9.symm)))
  refine lv_istore (lv' := [(6, .int (nI (t.1))), (5, .int (nI (5 * j))), (0, .ref (b)), (1, .ref (ad 0)), (2, .ref (d 0)), (3, .ref (qo)), (4, .ref (qd))]) hx hb dL_law_2105 hl (by decide) rfl (fun ls hl => ?_)
  refine lv_aload_n hx hb dL_law_2107 rfl (lv_at hl 4 rfl) ?_
  refine lv_aload_n hx hb dL_law_2108 rfl (lv_at hl 2 rfl) ?_
  refine lv_iload hx hb dL_law_2109 (lv_at hl 1 rfl) ?_
  refine lv_iconst (v := nI 1) hx hb dL_law_2111 (by decide) ?_
  refine x_iadd (v := nI ((5 * j) + 1)) hx hb dL_law_2112 (nI_add _ _) ?_
  refine x_sld hx hb hX hbl (fun z9 => absurd hbl (Nat.not_lt.mpr z9)) hS (i := (5 * j) + 1) (by omega) (by omega) dL_law_2113 ?_
  refine lv_aload_n hx hb dL_law_2114 rfl (lv_at hl 2 rfl) ?_
  refine lv_iload hx hb dL_law_2115 (lv_at hl 1 rfl) ?_
  refine lv_iconst (v := nI 2) hx hb dL_law_2117 (by decide) ?_
  refine x_iadd (v := nI ((5 * j) + 2)) hx hb dL_law_2118 (nI_add _ _) ?_
  refine x_sld hx hb hX hbl (fun z9 => absurd hbl (Nat.not_lt.mpr z9)) hS (i := (5 * j) + 2) (by omega) (by omega) dL_law_2119 ?_
  refine k2_V hx hb hml hown hG cs_L_238 (hmd th) (by decide) (pzV (hK.sub (tys' := [(cI, .int), (cZ, .boolean)]) [0, 2] rfl) rfl hM.rc hM) rfl hl.1 rfl (Nat.le_of_ble_eq_true rfl) dL_law_2120 ⟨hcap.1, hcap.2⟩ rfl hS (fun q ⟨i, hi, e9⟩ => e9 ▸ hzd i hi) (fun H locs hM hz hk hS => ?_)
  have hW := hW.kept (fun i hi => hk _ (hW.lt hi) (had i hi))
  have hPo := oneK hPo (hk qo (va_lt hPo (k := 0) rfl) hdo)
  have hPd := oneK hPd (hk qd (va_lt hPd (k := 0) rfl) hdd)
  refine lv_istore (lv' := [(7, .int (t.2.1)), (6, .int (nI (t.1))), (5, .int (nI (5 * j))), (0, .ref (b)), (1, .ref (ad 0)), (2, .ref (d 0)), (3, .ref (qo)), (4, .ref (qd))]) hx hb dL_law_2123 hl (by decide) rfl (fun ls hl => ?_)
  refine lv_aload_n hx hb dL_law_2125 rfl (lv_at hl 5 rfl) ?_
  refine k1_V hx hb hml hown hG cs_L_151 (c5_thrown l D cI cZ d t.2.2 (nI t.1)) (by decide) (pzV (hK.sub (tys' := [(cI, .int), (cZ, .boolean)]) [0, 2] rfl) rfl hM.rc hM) rfl hl.1 rfl (Nat.le_of_ble_eq_true rfl) dL_law_2126 ⟨hcap.1, hcap.2⟩ rfl ?_
  refine lv_iload hx hb dL_law_2129 (lv_at hl 1 rfl) ?_
  refine x_cmp_eq (tgt := 2136) hx hb dL_law_2131 (by decide) (by omega) (by omega) (fun zc1 => ?_) (fun zc1 => False.elim (by exact absurd rfl zc1))
  refine lv_iload hx hb dL_law_2136 (lv_at hl 1 rfl) ?_
  refine x_if_ne (tgt := 2153) hx hb dL_law_2138 (by decide) (by omega) (fun c0 => ?_) (fun c0 => ?_)
  · refine lv_goto (tgt := 2880) hx hb dL_law_2153 (by decide) ?_
    exact kk t.2.2 _ _ ls ⟨hiv, hW, ⟨_, hM⟩, ⟨_, hPo⟩, ⟨_, hPd⟩, hS⟩ (lv_sub hl [2, 3, 4, 5, 6, 7] rfl)
  · refine lv_aload_n hx hb dL_law_2141 rfl (lv_at hl 6 rfl) ?_
    refine lv_iconst (v := nI 0) hx hb dL_law_2142 (by decide) ?_
    refine x_lald0 hx hb (hf c0) hK hPo 3 rfl dL_law_2143 ?_
    refine lv_iload hx hb dL_law_2144 (lv_at hl 0 rfl) ?_
    refine lv_i2l (v := Int32.toInt64 t.2.1) hx hb dL_law_2146 rfl ?_
    refine W.lcmp hx hb dL_law_2147 ?_
    refine x_lifo_eq (tgt := 2153) hx hb dL_law_2148 (by decide) (fun zc2 => ?_) (fun zc2 => False.elim (by exact absurd rfl zc2))
    refine lv_goto (tgt := 2880) hx hb dL_law_2153 (by decide) ?_
    exact kk t.2.2 _ _ ls ⟨hiv, hW, ⟨_, hM⟩, ⟨_, hPo⟩, ⟨_, hPd⟩, hS⟩ (lv_sub hl [2, 3, 4, 5, 6, 7] rfl)
set_option maxHeartbeats 4000000 in
set_option maxRecDepth 100000 in
theorem lc_placeOf {p : Program} {l : Launch} {e : Env} {s : State} {m : MethodId} {below : List Frame} {meth : Method} {c : Code} {b L : Nat} {xs : Nat → Int32} {D : va_G} {cI cC cZ cL cD : ClassId} {ad d ta : Nat → Nat} {qo qd : Nat} {Q : State → Prop} (hst : l.stackTraces = false) (C : LwC p s m c b L xs D cI cC cZ cL cD ad d ta qo qd) {S : St} {N : Nat} {H : Heap} {locs : List Loc} {cells slots j : Nat} {ls : Array Slot} (I : LwI D cI cC cZ cL cD ad d qo qd s S N H locs) (hj : 5 * j + 5 ≤ L) (hN : N + 2000 < 2 ^ 31) (hcap : cells + 1 ≤ room_1.cells ∧ slots + 6 ≤ room_1.slots) (hl : lv_has ls 10 [(5, .int (nI (5 * j))), (0, .ref (b)), (1, .ref (ad 0)), (2, .ref (d 0)), (3, .ref (qo)), (4, .ref (qd))]) (kk : ∀ (S1 : St) (H1 : Heap) (locs1 : List Loc) (ls1 : Array Slot), LwI D cI cC cZ cL cD ad d qo qd s S1 (N + 2000) H1 locs1 → lv_has ls1 10 [(5, .int (nI (5 * j))), (0, .ref (b)), (1, .ref (ad 0)), (2, .ref (d 0)), (3, .ref (qo)), (4, .ref (qd))] → W p l e room_1 s m #[Value.ref b] below meth c H1 locs1 (cells + 1) (slots + 6) Q (F0 m 2880 ls1 [])) : W p l e room_1 s m #[Value.ref b] below meth c H locs cells slots Q (F0 m 2156 ls []) := by
  obtain ⟨hx, hb, hml, hown, hG, hK, hE, hT, hZ, hX2, hX, hbl, hL, hap, hapd, hza, hzd, hzo, hzd2, hda, hqo, hqd, hdo, hdd, hne, had⟩ := C
  obtain ⟨hI, hW, ⟨th, hM⟩, ⟨fo, hPo⟩, ⟨gd, hPd⟩, hS⟩ := I
  have hb : c.code = cL_law := hb
  have hwr := fun (f : Nat → Int64) => wr_placeOf l hst D cI cC cL ad ta s.heap.size S N qo f (xs (5 * j + 1)) (xs (5 * j + 2)) hI hN hap hqo
  have hmd := fun (th : Int32) => m_placeOf l D cI cZ d S th (xs (5 * j + 1)) (xs (5 * j + 2)) hI hapd
  have hcd := cd_placeOf S (xs (5 * j + 1)) (xs (5 * j + 2))
  have hiv : Inv (sp_placeOf S (xs (5 * j + 1)) (xs (5 * j + 2))).2.2 := by rw [st_placeOf]; exact hI
  generalize sp_placeOf S (xs (5 * j + 1)) (xs (5 * j + 2)) = t at hwr hmd hcd hiv
  have hc9 : t.1 ≤ 3 := by
    rcases hcd with h | h
    · omega
    · have h9 := h.1
      omega
  refine lv_aload_n hx hb dL_law_2156 rfl (lv_at hl 2 rfl) ?_
  refine lv_aload_n hx hb dL_law_2157 rfl (lv_at hl 1 rfl) ?_
  refine lv_iload hx hb dL_law_2158 (lv_at hl 0 rfl) ?_
  refine lv_iconst (v := nI 1) hx hb dL_law_2160 (by decide) ?_
  refine x_iadd (v := nI ((5 * j) + 1)) hx hb dL_law_2161 (nI_add _ _) ?_
  refine x_sld hx hb hX hbl (fun z9 => absurd hbl (Nat.not_lt.mpr z9)) hS (i := (5 * j) + 1) (by omega) (by omega) dL_law_2162 ?_
  refine lv_aload_n hx hb dL_law_2163 rfl (lv_at hl 1 rfl) ?_
  refine lv_iload hx hb dL_law_2164 (lv_at hl 0 rfl) ?_
  refine lv_iconst (v := nI 2) hx hb dL_law_2166 (by decide) ?_
  refine x_iadd (v := nI ((5 * j) + 2)) hx hb dL_law_2167 (nI_add _ _) ?_
  refine x_sld hx hb hX hbl (fun z9 => absurd hbl (Nat.not_lt.mpr z9)) hS (i := (5 * j) + 2) (by omega) (by omega) dL_law_2168 ?_
  refine lv_aload_n hx hb dL_law_2169 rfl (lv_at hl 4 rfl) ?_
  refine k2_SW hx hb hml hown hG csw_L_239 (hwr fo) (by decide) (pzwS (hK.sub (tys' := [(cI, .int), (cC, .char), (cL, .long)]) [0, 1, 3] rfl) hE hT hZ hX2 hS.2.1 ⟨hW, hPo⟩) rfl hl.1 rfl (Nat.le_of_ble_eq_true rfl) dL_law_2170 hcap rfl hS (fun q z9 => z9.elim (fun ⟨i, hi, e9⟩ => e9 ▸ hza i hi) (fun e9 => e9 ▸ hzo)) (fun H locs hB9 hz hk hS => ?_)
  obtain ⟨hW, f9, hPo, hf⟩ := hB9
  have hM := hM.kept (fun i hi => hk _ (hM.lt hi) (fun z9 => z9.elim (hda i hi) (fun e9 => hdo ⟨i, hi, e9.symm⟩)))
  have hPd := oneK hPd (hk qd (va_lt hPd (k := 0) rfl) (fun z9 => z9.elim hqd (fun e9 => hne e9.symm)))
  refine lv_istore (lv' := [(6, .int (nI (t.1))), (5, .int (nI (5 * j))), (0, .ref (b)), (1, .ref (ad 0)), (2, .ref (d 0)), (3, .ref (qo)), (4, .ref (qd))]) hx hb dL_law_2173 hl (by decide) rfl (fun ls hl => ?_)
  refine lv_aload_n hx hb dL_law_2175 rfl (lv_at hl 4 rfl) ?_
  refine lv_aload_n hx hb dL_law_2176 rfl (lv_at hl 2 rfl) ?_
  refine lv_iload hx hb dL_law_2177 (lv_at hl 1 rfl) ?_
  refine lv_iconst (v := nI 1) hx hb dL_law_2179 (by decide) ?_
  refine x_iadd (v := nI ((5 * j) + 1)) hx hb dL_law_2180 (nI_add _ _) ?_
  refine x_sld hx hb hX hbl (fun z9 => absurd hbl (Nat.not_lt.mpr z9)) hS (i := (5 * j) + 1) (by omega) (by omega) dL_law_2181 ?_
  refine lv_aload_n hx hb dL_law_2182 rfl (lv_at hl 2 rfl) ?_
  refine lv_iload hx hb dL_law_2183 (lv_at hl 1 rfl) ?_
  refine lv_iconst (v := nI 2) hx hb dL_law_2185 (by decide) ?_
  refine x_iadd (v := nI ((5 * j) + 2)) hx hb dL_law_2186 (nI_add _ _) ?_
  refine x_sld hx hb hX hbl (fun z9 => absurd hbl (Nat.not_lt.mpr z9)) hS (i := (5 * j) + 2) (by omega) (by omega) dL_law_2187 ?_
  refine k2_V hx hb hml hown hG cs_L_241 (hmd th) (by decide) (pzV (hK.sub (tys' := [(cI, .int), (cZ, .boolean)]) [0, 2] rfl) rfl hM.rc hM) rfl hl.1 rfl (Nat.le_of_ble_eq_true rfl) dL_law_2188 ⟨hcap.1, hcap.2⟩ rfl hS (fun q ⟨i, hi, e9⟩ => e9 ▸ hzd i hi) (fun H locs hM hz hk hS => ?_)
  have hW := hW.kept (fun i hi => hk _ (hW.lt hi) (had i hi))
  have hPo := oneK hPo (hk qo (va_lt hPo (k := 0) rfl) hdo)
  have hPd := oneK hPd (hk qd (va_lt hPd (k := 0) rfl) hdd)
  refine lv_istore (lv' := [(7, .int (t.2.1)), (6, .int (nI (t.1))), (5, .int (nI (5 * j))), (0, .ref (b)), (1, .ref (ad 0)), (2, .ref (d 0)), (3, .ref (qo)), (4, .ref (qd))]) hx hb dL_law_2191 hl (by decide) rfl (fun ls hl => ?_)
  refine lv_aload_n hx hb dL_law_2193 rfl (lv_at hl 5 rfl) ?_
  refine k1_V hx hb hml hown hG cs_L_151 (c5_thrown l D cI cZ d t.2.2 (nI t.1)) (by decide) (pzV (hK.sub (tys' := [(cI, .int), (cZ, .boolean)]) [0, 2] rfl) rfl hM.rc hM) rfl hl.1 rfl (Nat.le_of_ble_eq_true rfl) dL_law_2194 ⟨hcap.1, hcap.2⟩ rfl ?_
  refine lv_iload hx hb dL_law_2197 (lv_at hl 1 rfl) ?_
  refine x_cmp_eq (tgt := 2204) hx hb dL_law_2199 (by decide) (by omega) (by omega) (fun zc1 => ?_) (fun zc1 => False.elim (by exact absurd rfl zc1))
  refine lv_iload hx hb dL_law_2204 (lv_at hl 1 rfl) ?_
  refine x_if_ne (tgt := 2221) hx hb dL_law_2206 (by decide) (by omega) (fun c0 => ?_) (fun c0 => ?_)
  · refine lv_goto (tgt := 2880) hx hb dL_law_2221 (by decide) ?_
    exact kk t.2.2 _ _ ls ⟨hiv, hW, ⟨_, hM⟩, ⟨_, hPo⟩, ⟨_, hPd⟩, hS⟩ (lv_sub hl [2, 3, 4, 5, 6, 7] rfl)
  · refine lv_aload_n hx hb dL_law_2209 rfl (lv_at hl 6 rfl) ?_
    refine lv_iconst (v := nI 0) hx hb dL_law_2210 (by decide) ?_
    refine x_lald0 hx hb (hf c0) hK hPo 3 rfl dL_law_2211 ?_
    refine lv_iload hx hb dL_law_2212 (lv_at hl 0 rfl) ?_
    refine lv_i2l (v := Int32.toInt64 t.2.1) hx hb dL_law_2214 rfl ?_
    refine W.lcmp hx hb dL_law_2215 ?_
    refine x_lifo_eq (tgt := 2221) hx hb dL_law_2216 (by decide) (fun zc2 => ?_) (fun zc2 => False.elim (by exact absurd rfl zc2))
    refine lv_goto (tgt := 2880) hx hb dL_law_2221 (by decide) ?_
    exact kk t.2.2 _ _ ls ⟨hiv, hW, ⟨_, hM⟩, ⟨_, hPo⟩, ⟨_, hPd⟩, hS⟩ (lv_sub hl [2, 3, 4, 5, 6, 7] rfl)
set_option maxHeartbeats 4000000 in
set_option maxRecDepth 100000 in
theorem lc_areEqual {p : Program} {l : Launch} {e : Env} {s : State} {m : MethodId} {below : List Frame} {meth : Method} {c : Code} {b L : Nat} {xs : Nat → Int32} {D : va_G} {cI cC cZ cL cD : ClassId} {ad d ta : Nat → Nat} {qo qd : Nat} {Q : State → Prop} (hst : l.stackTraces = false) (C : LwC p s m c b L xs D cI cC cZ cL cD ad d ta qo qd) {S : St} {N : Nat} {H : Heap} {locs : List Loc} {cells slots j : Nat} {ls : Array Slot} (I : LwI D cI cC cZ cL cD ad d qo qd s S N H locs) (hj : 5 * j + 5 ≤ L) (hN : N + 2000 < 2 ^ 31) (hcap : cells + 1 ≤ room_1.cells ∧ slots + 6 ≤ room_1.slots) (hl : lv_has ls 10 [(5, .int (nI (5 * j))), (0, .ref (b)), (1, .ref (ad 0)), (2, .ref (d 0)), (3, .ref (qo)), (4, .ref (qd))]) (kk : ∀ (S1 : St) (H1 : Heap) (locs1 : List Loc) (ls1 : Array Slot), LwI D cI cC cZ cL cD ad d qo qd s S1 (N + 2000) H1 locs1 → lv_has ls1 10 [(5, .int (nI (5 * j))), (0, .ref (b)), (1, .ref (ad 0)), (2, .ref (d 0)), (3, .ref (qo)), (4, .ref (qd))] → W p l e room_1 s m #[Value.ref b] below meth c H1 locs1 (cells + 1) (slots + 6) Q (F0 m 2880 ls1 [])) : W p l e room_1 s m #[Value.ref b] below meth c H locs cells slots Q (F0 m 2224 ls []) := by
  obtain ⟨hx, hb, hml, hown, hG, hK, hE, hT, hZ, hX2, hX, hbl, hL, hap, hapd, hza, hzd, hzo, hzd2, hda, hqo, hqd, hdo, hdd, hne, had⟩ := C
  obtain ⟨hI, hW, ⟨th, hM⟩, ⟨fo, hPo⟩, ⟨gd, hPd⟩, hS⟩ := I
  have hb : c.code = cL_law := hb
  have hwr := fun (f : Nat → Int64) => wr_areEqual l hst D cI cC cL ad ta s.heap.size S N qo f (xs (5 * j + 1)) (xs (5 * j + 2)) hI hN hap hqo
  have hmd := fun (th : Int32) => m_areEqual l D cI cZ d S th (xs (5 * j + 1)) (xs (5 * j + 2)) hI hapd
  have hcd := cd_areEqual S (xs (5 * j + 1)) (xs (5 * j + 2))
  have hiv : Inv (sp_areEqual S (xs (5 * j + 1)) (xs (5 * j + 2))).2.2 := by rw [st_areEqual]; exact hI
  generalize sp_areEqual S (xs (5 * j + 1)) (xs (5 * j + 2)) = t at hwr hmd hcd hiv
  have hc9 : t.1 ≤ 3 := by
    rcases hcd with h | h
    · omega
    · have h9 := h.1
      omega
  refine lv_aload_n hx hb dL_law_2224 rfl (lv_at hl 2 rfl) ?_
  refine lv_aload_n hx hb dL_law_2225 rfl (lv_at hl 1 rfl) ?_
  refine lv_iload hx hb dL_law_2226 (lv_at hl 0 rfl) ?_
  refine lv_iconst (v := nI 1) hx hb dL_law_2228 (by decide) ?_
  refine x_iadd (v := nI ((5 * j) + 1)) hx hb dL_law_2229 (nI_add _ _) ?_
  refine x_sld hx hb hX hbl (fun z9 => absurd hbl (Nat.not_lt.mpr z9)) hS (i := (5 * j) + 1) (by omega) (by omega) dL_law_2230 ?_
  refine lv_aload_n hx hb dL_law_2231 rfl (lv_at hl 1 rfl) ?_
  refine lv_iload hx hb dL_law_2232 (lv_at hl 0 rfl) ?_
  refine lv_iconst (v := nI 2) hx hb dL_law_2234 (by decide) ?_
  refine x_iadd (v := nI ((5 * j) + 2)) hx hb dL_law_2235 (nI_add _ _) ?_
  refine x_sld hx hb hX hbl (fun z9 => absurd hbl (Nat.not_lt.mpr z9)) hS (i := (5 * j) + 2) (by omega) (by omega) dL_law_2236 ?_
  refine lv_aload_n hx hb dL_law_2237 rfl (lv_at hl 4 rfl) ?_
  refine k2_SW hx hb hml hown hG csw_L_242 (hwr fo) (by decide) (pzwS (hK.sub (tys' := [(cI, .int), (cC, .char), (cL, .long)]) [0, 1, 3] rfl) hE hT hZ hX2 hS.2.1 ⟨hW, hPo⟩) rfl hl.1 rfl (Nat.le_of_ble_eq_true rfl) dL_law_2238 hcap rfl hS (fun q z9 => z9.elim (fun ⟨i, hi, e9⟩ => e9 ▸ hza i hi) (fun e9 => e9 ▸ hzo)) (fun H locs hB9 hz hk hS => ?_)
  obtain ⟨hW, f9, hPo, hf⟩ := hB9
  have hM := hM.kept (fun i hi => hk _ (hM.lt hi) (fun z9 => z9.elim (hda i hi) (fun e9 => hdo ⟨i, hi, e9.symm⟩)))
  have hPd := oneK hPd (hk qd (va_lt hPd (k := 0) rfl) (fun z9 => z9.elim hqd (fun e9 => hne e9.symm)))
  refine lv_istore (lv' := [(6, .int (nI (t.1))), (5, .int (nI (5 * j))), (0, .ref (b)), (1, .ref (ad 0)), (2, .ref (d 0)), (3, .ref (qo)), (4, .ref (qd))]) hx hb dL_law_2241 hl (by decide) rfl (fun ls hl => ?_)
  refine lv_aload_n hx hb dL_law_2243 rfl (lv_at hl 4 rfl) ?_
  refine lv_aload_n hx hb dL_law_2244 rfl (lv_at hl 2 rfl) ?_
  refine lv_iload hx hb dL_law_2245 (lv_at hl 1 rfl) ?_
  refine lv_iconst (v := nI 1) hx hb dL_law_2247 (by decide) ?_
  refine x_iadd (v := nI ((5 * j) + 1)) hx hb dL_law_2248 (nI_add _ _) ?_
  refine x_sld hx hb hX hbl (fun z9 => absurd hbl (Nat.not_lt.mpr z9)) hS (i := (5 * j) + 1) (by omega) (by omega) dL_law_2249 ?_
  refine lv_aload_n hx hb dL_law_2250 rfl (lv_at hl 2 rfl) ?_
  refine lv_iload hx hb dL_law_2251 (lv_at hl 1 rfl) ?_
  refine lv_iconst (v := nI 2) hx hb dL_law_2253 (by decide) ?_
  refine x_iadd (v := nI ((5 * j) + 2)) hx hb dL_law_2254 (nI_add _ _) ?_
  refine x_sld hx hb hX hbl (fun z9 => absurd hbl (Nat.not_lt.mpr z9)) hS (i := (5 * j) + 2) (by omega) (by omega) dL_law_2255 ?_
  refine k2_V hx hb hml hown hG cs_L_244 (hmd th) (by decide) (pzV (hK.sub (tys' := [(cI, .int), (cZ, .boolean)]) [0, 2] rfl) rfl hM.rc hM) rfl hl.1 rfl (Nat.le_of_ble_eq_true rfl) dL_law_2256 ⟨hcap.1, hcap.2⟩ rfl hS (fun q ⟨i, hi, e9⟩ => e9 ▸ hzd i hi) (fun H locs hM hz hk hS => ?_)
  have hW := hW.kept (fun i hi => hk _ (hW.lt hi) (had i hi))
  have hPo := oneK hPo (hk qo (va_lt hPo (k := 0) rfl) hdo)
  have hPd := oneK hPd (hk qd (va_lt hPd (k := 0) rfl) hdd)
  refine lv_istore (lv' := [(7, .int (bI (t.2.1))), (6, .int (nI (t.1))), (5, .int (nI (5 * j))), (0, .ref (b)), (1, .ref (ad 0)), (2, .ref (d 0)), (3, .ref (qo)), (4, .ref (qd))]) hx hb dL_law_2259 hl (by decide) rfl (fun ls hl => ?_)
  refine lv_aload_n hx hb dL_law_2261 rfl (lv_at hl 5 rfl) ?_
  refine k1_V hx hb hml hown hG cs_L_151 (c5_thrown l D cI cZ d t.2.2 (nI t.1)) (by decide) (pzV (hK.sub (tys' := [(cI, .int), (cZ, .boolean)]) [0, 2] rfl) rfl hM.rc hM) rfl hl.1 rfl (Nat.le_of_ble_eq_true rfl) dL_law_2262 ⟨hcap.1, hcap.2⟩ rfl ?_
  refine lv_iload hx hb dL_law_2265 (lv_at hl 1 rfl) ?_
  refine x_cmp_eq (tgt := 2272) hx hb dL_law_2267 (by decide) (by omega) (by omega) (fun zc1 => ?_) (fun zc1 => False.elim (by exact absurd rfl zc1))
  refine lv_iload hx hb dL_law_2272 (lv_at hl 1 rfl) ?_
  refine x_if_ne (tgt := 2296) hx hb dL_law_2274 (by decide) (by omega) (fun c0 => ?_) (fun c0 => ?_)
  · refine lv_goto (tgt := 2880) hx hb dL_law_2296 (by decide) ?_
    exact kk t.2.2 _ _ ls ⟨hiv, hW, ⟨_, hM⟩, ⟨_, hPo⟩, ⟨_, hPd⟩, hS⟩ (lv_sub hl [2, 3, 4, 5, 6, 7] rfl)
  · refine lv_aload_n hx hb dL_law_2277 rfl (lv_at hl 6 rfl) ?_
    refine lv_iconst (v := nI 0) hx hb dL_law_2278 (by decide) ?_
    refine x_lald0 hx hb (hf c0) hK hPo 3 rfl dL_law_2279 ?_
    refine lv_iload hx hb dL_law_2280 (lv_at hl 0 rfl) ?_
    refine x_ifb_eq (tgt := 2289) hx hb dL_law_2282 (by decide) (fun c1 => ?_) (fun c1 => ?_)
    · refine lv_lconst (v := lN (0)) hx hb dL_law_2289 (by decide) ?_
      refine W.lcmp hx hb dL_law_2290 ?_
      refine x_lifo_eq (tgt := 2296) hx hb dL_law_2291 (by decide) (fun zc2 => ?_) (fun zc2 => False.elim (by exact absurd (by rw [c1]; rfl) zc2))
      refine lv_goto (tgt := 2880) hx hb dL_law_2296 (by decide) ?_
      exact kk t.2.2 _ _ ls ⟨hiv, hW, ⟨_, hM⟩, ⟨_, hPo⟩, ⟨_, hPd⟩, hS⟩ (lv_sub hl [2, 3, 4, 5, 6, 7] rfl)
    · refine lv_lconst (v := lN (1)) hx hb dL_law_2285 (by decide) ?_
      refine lv_goto (tgt := 2290) hx hb dL_law_2286 (by decide) ?_
      refine W.lcmp hx hb dL_law_2290 ?_
      refine x_lifo_eq (tgt := 2296) hx hb dL_law_2291 (by decide) (fun zc3 => ?_) (fun zc3 => False.elim (by exact absurd (by rw [c1]; rfl) zc3))
      refine lv_goto (tgt := 2880) hx hb dL_law_2296 (by decide) ?_
      exact kk t.2.2 _ _ ls ⟨hiv, hW, ⟨_, hM⟩, ⟨_, hPo⟩, ⟨_, hPd⟩, hS⟩ (lv_sub hl [2, 3, 4, 5, 6, 7] rfl)
set_option maxHeartbeats 4000000 in
set_option maxRecDepth 100000 in
theorem lc_areAlike {p : Program} {l : Launch} {e : Env} {s : State} {m : MethodId} {below : List Frame} {meth : Method} {c : Code} {b L : Nat} {xs : Nat → Int32} {D : va_G} {cI cC cZ cL cD : ClassId} {ad d ta : Nat → Nat} {qo qd : Nat} {Q : State → Prop} (hst : l.stackTraces = false) (C : LwC p s m c b L xs D cI cC cZ cL cD ad d ta qo qd) {S : St} {N : Nat} {H : Heap} {locs : List Loc} {cells slots j : Nat} {ls : Array Slot} (I : LwI D cI cC cZ cL cD ad d qo qd s S N H locs) (hj : 5 * j + 5 ≤ L) (hN : N + 2000 < 2 ^ 31) (hcap : cells + 1 ≤ room_1.cells ∧ slots + 6 ≤ room_1.slots) (hl : lv_has ls 10 [(5, .int (nI (5 * j))), (0, .ref (b)), (1, .ref (ad 0)), (2, .ref (d 0)), (3, .ref (qo)), (4, .ref (qd))]) (kk : ∀ (S1 : St) (H1 : Heap) (locs1 : List Loc) (ls1 : Array Slot), LwI D cI cC cZ cL cD ad d qo qd s S1 (N + 2000) H1 locs1 → lv_has ls1 10 [(5, .int (nI (5 * j))), (0, .ref (b)), (1, .ref (ad 0)), (2, .ref (d 0)), (3, .ref (qo)), (4, .ref (qd))] → W p l e room_1 s m #[Value.ref b] below meth c H1 locs1 (cells + 1) (slots + 6) Q (F0 m 2880 ls1 [])) : W p l e room_1 s m #[Value.ref b] below meth c H locs cells slots Q (F0 m 2299 ls []) := by
  obtain ⟨hx, hb, hml, hown, hG, hK, hE, hT, hZ, hX2, hX, hbl, hL, hap, hapd, hza, hzd, hzo, hzd2, hda, hqo, hqd, hdo, hdd, hne, had⟩ := C
  obtain ⟨hI, hW, ⟨th, hM⟩, ⟨fo, hPo⟩, ⟨gd, hPd⟩, hS⟩ := I
  have hb : c.code = cL_law := hb
  have hwr := fun (f : Nat → Int64) => wr_areAlike l hst D cI cC cL ad ta s.heap.size S N qo f (xs (5 * j + 1)) (xs (5 * j + 2)) hI hN hap hqo
  have hmd := fun (th : Int32) => m_areAlike l D cI cZ d S th (xs (5 * j + 1)) (xs (5 * j + 2)) hI hapd
  have hcd := cd_areAlike S (xs (5 * j + 1)) (xs (5 * j + 2))
  have hiv : Inv (sp_areAlike S (xs (5 * j + 1)) (xs (5 * j + 2))).2.2 := by rw [st_areAlike]; exact hI
  generalize sp_areAlike S (xs (5 * j + 1)) (xs (5 * j + 2)) = t at hwr hmd hcd hiv
  have hc9 : t.1 ≤ 3 := by
    rcases hcd with h | h
    · omega
    · have h9 := h.1
      omega
  refine lv_aload_n hx hb dL_law_2299 rfl (lv_at hl 2 rfl) ?_
  refine lv_aload_n hx hb dL_law_2300 rfl (lv_at hl 1 rfl) ?_
  refine lv_iload hx hb dL_law_2301 (lv_at hl 0 rfl) ?_
  refine lv_iconst (v := nI 1) hx hb dL_law_2303 (by decide) ?_
  refine x_iadd (v := nI ((5 * j) + 1)) hx hb dL_law_2304 (nI_add _ _) ?_
  refine x_sld hx hb hX hbl (fun z9 => absurd hbl (Nat.not_lt.mpr z9)) hS (i := (5 * j) + 1) (by omega) (by omega) dL_law_2305 ?_
  refine lv_aload_n hx hb dL_law_2306 rfl (lv_at hl 1 rfl) ?_
  refine lv_iload hx hb dL_law_2307 (lv_at hl 0 rfl) ?_
  refine lv_iconst (v := nI 2) hx hb dL_law_2309 (by decide) ?_
  refine x_iadd (v := nI ((5 * j) + 2)) hx hb dL_law_2310 (nI_add _ _) ?_
  refine x_sld hx hb hX hbl (fun z9 => absurd hbl (Nat.not_lt.mpr z9)) hS (i := (5 * j) + 2) (by omega) (by omega) dL_law_2311 ?_
  refine lv_aload_n hx hb dL_law_2312 rfl (lv_at hl 4 rfl) ?_
  refine k2_SW hx hb hml hown hG csw_L_245 (hwr fo) (by decide) (pzwS (hK.sub (tys' := [(cI, .int), (cC, .char), (cL, .long)]) [0, 1, 3] rfl) hE hT hZ hX2 hS.2.1 ⟨hW, hPo⟩) rfl hl.1 rfl (Nat.le_of_ble_eq_true rfl) dL_law_2313 hcap rfl hS (fun q z9 => z9.elim (fun ⟨i, hi, e9⟩ => e9 ▸ hza i hi) (fun e9 => e9 ▸ hzo)) (fun H locs hB9 hz hk hS => ?_)
  obtain ⟨hW, f9, hPo, hf⟩ := hB9
  have hM := hM.kept (fun i hi => hk _ (hM.lt hi) (fun z9 => z9.elim (hda i hi) (fun e9 => hdo ⟨i, hi, e9.symm⟩)))
  have hPd := oneK hPd (hk qd (va_lt hPd (k := 0) rfl) (fun z9 => z9.elim hqd (fun e9 => hne e9.symm)))
  refine lv_istore (lv' := [(6, .int (nI (t.1))), (5, .int (nI (5 * j))), (0, .ref (b)), (1, .ref (ad 0)), (2, .ref (d 0)), (3, .ref (qo)), (4, .ref (qd))]) hx hb dL_law_2316 hl (by decide) rfl (fun ls hl => ?_)
  refine lv_aload_n hx hb dL_law_2318 rfl (lv_at hl 4 rfl) ?_
  refine lv_aload_n hx hb dL_law_2319 rfl (lv_at hl 2 rfl) ?_
  refine lv_iload hx hb dL_law_2320 (lv_at hl 1 rfl) ?_
  refine lv_iconst (v := nI 1) hx hb dL_law_2322 (by decide) ?_
  refine x_iadd (v := nI ((5 * j) + 1)) hx hb dL_law_2323 (nI_add _ _) ?_
  refine x_sld hx hb hX hbl (fun z9 => absurd hbl (Nat.not_lt.mpr z9)) hS (i := (5 * j) + 1) (by omega) (by omega) dL_law_2324 ?_
  refine lv_aload_n hx hb dL_law_2325 rfl (lv_at hl 2 rfl) ?_
  refine lv_iload hx hb dL_law_2326 (lv_at hl 1 rfl) ?_
  refine lv_iconst (v := nI 2) hx hb dL_law_2328 (by decide) ?_
  refine x_iadd (v := nI ((5 * j) + 2)) hx hb dL_law_2329 (nI_add _ _) ?_
  refine x_sld hx hb hX hbl (fun z9 => absurd hbl (Nat.not_lt.mpr z9)) hS (i := (5 * j) + 2) (by omega) (by omega) dL_law_2330 ?_
  refine k2_V hx hb hml hown hG cs_L_247 (hmd th) (by decide) (pzV (hK.sub (tys' := [(cI, .int), (cZ, .boolean)]) [0, 2] rfl) rfl hM.rc hM) rfl hl.1 rfl (Nat.le_of_ble_eq_true rfl) dL_law_2331 ⟨hcap.1, hcap.2⟩ rfl hS (fun q ⟨i, hi, e9⟩ => e9 ▸ hzd i hi) (fun H locs hM hz hk hS => ?_)
  have hW := hW.kept (fun i hi => hk _ (hW.lt hi) (had i hi))
  have hPo := oneK hPo (hk qo (va_lt hPo (k := 0) rfl) hdo)
  have hPd := oneK hPd (hk qd (va_lt hPd (k := 0) rfl) hdd)
  refine lv_istore (lv' := [(7, .int (bI (t.2.1))), (6, .int (nI (t.1))), (5, .int (nI (5 * j))), (0, .ref (b)), (1, .ref (ad 0)), (2, .ref (d 0)), (3, .ref (qo)), (4, .ref (qd))]) hx hb dL_law_2334 hl (by decide) rfl (fun ls hl => ?_)
  refine lv_aload_n hx hb dL_law_2336 rfl (lv_at hl 5 rfl) ?_
  refine k1_V hx hb hml hown hG cs_L_151 (c5_thrown l D cI cZ d t.2.2 (nI t.1)) (by decide) (pzV (hK.sub (tys' := [(cI, .int), (cZ, .boolean)]) [0, 2] rfl) rfl hM.rc hM) rfl hl.1 rfl (Nat.le_of_ble_eq_true rfl) dL_law_2337 ⟨hcap.1, hcap.2⟩ rfl ?_
  refine lv_iload hx hb dL_law_2340 (lv_at hl 1 rfl) ?_
  refine x_cmp_eq (tgt := 2347) hx hb dL_law_2342 (by decide) (by omega) (by omega) (fun zc1 => ?_) (fun zc1 => False.elim (by exact absurd rfl zc1))
  refine lv_iload hx hb dL_law_2347 (lv_at hl 1 rfl) ?_
  refine x_if_ne (tgt := 2371) hx hb dL_law_2349 (by decide) (by omega) (fun c0 => ?_) (fun c0 => ?_)
  · refine lv_goto (tgt := 2880) hx hb dL_law_2371 (by decide) ?_
    exact kk t.2.2 _ _ ls ⟨hiv, hW, ⟨_, hM⟩, ⟨_, hPo⟩, ⟨_, hPd⟩, hS⟩ (lv_sub hl [2, 3, 4, 5, 6, 7] rfl)
  · refine lv_aload_n hx hb dL_law_2352 rfl (lv_at hl 6 rfl) ?_
    refine lv_iconst (v := nI 0) hx hb dL_law_2353 (by decide) ?_
    refine x_lald0 hx hb (hf c0) hK hPo 3 rfl dL_law_2354 ?_
    refine lv_iload hx hb dL_law_2355 (lv_at hl 0 rfl) ?_
    refine x_ifb_eq (tgt := 2364) hx hb dL_law_2357 (by decide) (fun c1 => ?_) (fun c1 => ?_)
    · refine lv_lconst (v := lN (0)) hx hb dL_law_2364 (by decide) ?_
      refine W.lcmp hx hb dL_law_2365 ?_
      refine x_lifo_eq (tgt := 2371) hx hb dL_law_2366 (by decide) (fun zc2 => ?_) (fun zc2 => False.elim (by exact absurd (by rw [c1]; rfl) zc2))
      refine lv_goto (tgt := 2880) hx hb dL_law_2371 (by decide) ?_
      exact kk t.2.2 _ _ ls ⟨hiv, hW, ⟨_, hM⟩, ⟨_, hPo⟩, ⟨_, hPd⟩, hS⟩ (lv_sub hl [2, 3, 4, 5, 6, 7] rfl)
    · refine lv_lconst (v := lN (1)) hx hb dL_law_2360 (by decide) ?_
      refine lv_goto (tgt := 2365) hx hb dL_law_2361 (by decide) ?_
      refine W.lcmp hx hb dL_law_2365 ?_
      refine x_lifo_eq (tgt := 2371) hx hb dL_law_2366 (by decide) (fun zc3 => ?_) (fun zc3 => False.elim (by exact absurd (by rw [c1]; rfl) zc3))
      refine lv_goto (tgt := 2880) hx hb dL_law_2371 (by decide) ?_
      exact kk t.2.2 _ _ ls ⟨hiv, hW, ⟨_, hM⟩, ⟨_, hPo⟩, ⟨_, hPd⟩, hS⟩ (lv_sub hl [2, 3, 4, 5, 6, 7] rfl)
set_option maxHeartbeats 4000000 in
set_option maxRecDepth 100000 in
theorem lc_hash {p : Program} {l : Launch} {e : Env} {s : State} {m : MethodId} {below : List Frame} {meth : Method} {c : Code} {b L : Nat} {xs : Nat → Int32} {D : va_G} {cI cC cZ cL cD : ClassId} {ad d ta : Nat → Nat} {qo qd : Nat} {Q : State → Prop} (hst : l.stackTraces = false) (C : LwC p s m c b L xs D cI cC cZ cL cD ad d ta qo qd) {S : St} {N : Nat} {H : Heap} {locs : List Loc} {cells slots j : Nat} {ls : Array Slot} (I : LwI D cI cC cZ cL cD ad d qo qd s S N H locs) (hj : 5 * j + 5 ≤ L) (hN : N + 2000 < 2 ^ 31) (hcap : cells + 1 ≤ room_1.cells ∧ slots + 6 ≤ room_1.slots) (hl : lv_has ls 10 [(5, .int (nI (5 * j))), (0, .ref (b)), (1, .ref (ad 0)), (2, .ref (d 0)), (3, .ref (qo)), (4, .ref (qd))]) (kk : ∀ (S1 : St) (H1 : Heap) (locs1 : List Loc) (ls1 : Array Slot), LwI D cI cC cZ cL cD ad d qo qd s S1 (N + 2000) H1 locs1 → lv_has ls1 10 [(5, .int (nI (5 * j))), (0, .ref (b)), (1, .ref (ad 0)), (2, .ref (d 0)), (3, .ref (qo)), (4, .ref (qd))] → W p l e room_1 s m #[Value.ref b] below meth c H1 locs1 (cells + 1) (slots + 6) Q (F0 m 2880 ls1 [])) : W p l e room_1 s m #[Value.ref b] below meth c H locs cells slots Q (F0 m 2374 ls []) := by
  obtain ⟨hx, hb, hml, hown, hG, hK, hE, hT, hZ, hX2, hX, hbl, hL, hap, hapd, hza, hzd, hzo, hzd2, hda, hqo, hqd, hdo, hdd, hne, had⟩ := C
  obtain ⟨hI, hW, ⟨th, hM⟩, ⟨fo, hPo⟩, ⟨gd, hPd⟩, hS⟩ := I
  have hb : c.code = cL_law := hb
  have hwr := fun (f : Nat → Int64) => wr_hash l hst D cI cC cL ad ta s.heap.size S N qo f (xs (5 * j + 1)) hI hN hap hqo
  have hmd := fun (th : Int32) => m_hash l D cI cZ d S th (xs (5 * j + 1)) hI hapd
  have hcd := cd_hash S (xs (5 * j + 1))
  have hiv : Inv (sp_hash S (xs (5 * j + 1))).2.2 := by rw [st_hash]; exact hI
  generalize sp_hash S (xs (5 * j + 1)) = t at hwr hmd hcd hiv
  have hc9 : t.1 ≤ 3 := by
    rcases hcd with h | h
    · omega
    · have h9 := h.1
      omega
  refine lv_aload_n hx hb dL_law_2374 rfl (lv_at hl 2 rfl) ?_
  refine lv_aload_n hx hb dL_law_2375 rfl (lv_at hl 1 rfl) ?_
  refine lv_iload hx hb dL_law_2376 (lv_at hl 0 rfl) ?_
  refine lv_iconst (v := nI 1) hx hb dL_law_2378 (by decide) ?_
  refine x_iadd (v := nI ((5 * j) + 1)) hx hb dL_law_2379 (nI_add _ _) ?_
  refine x_sld hx hb hX hbl (fun z9 => absurd hbl (Nat.not_lt.mpr z9)) hS (i := (5 * j) + 1) (by omega) (by omega) dL_law_2380 ?_
  refine lv_aload_n hx hb dL_law_2381 rfl (lv_at hl 4 rfl) ?_
  refine k2_SW hx hb hml hown hG csw_L_248 (hwr fo) (by decide) (pzwS (hK.sub (tys' := [(cI, .int), (cC, .char), (cL, .long)]) [0, 1, 3] rfl) hE hT hZ hX2 hS.2.1 ⟨hW, hPo⟩) rfl hl.1 rfl (Nat.le_of_ble_eq_true rfl) dL_law_2382 hcap rfl hS (fun q z9 => z9.elim (fun ⟨i, hi, e9⟩ => e9 ▸ hza i hi) (fun e9 => e9 ▸ hzo)) (fun H locs hB9 hz hk hS => ?_)
  obtain ⟨hW, f9, hPo, hf⟩ := hB9
  have hM := hM.kept (fun i hi => hk _ (hM.lt hi) (fun z9 => z9.elim (hda i hi) (fun e9 => hdo ⟨i, hi, e9.symm⟩)))
  have hPd := oneK hPd (hk qd (va_lt hPd (k := 0) rfl) (fun z9 => z9.elim hqd (fun e9 => hne e9.symm)))
  refine lv_istore (lv' := [(6, .int (nI (t.1))), (5, .int (nI (5 * j))), (0, .ref (b)), (1, .ref (ad 0)), (2, .ref (d 0)), (3, .ref (qo)), (4, .ref (qd))]) hx hb dL_law_2385 hl (by decide) rfl (fun ls hl => ?_)
  refine lv_aload_n hx hb dL_law_2387 rfl (lv_at hl 4 rfl) ?_
  refine lv_aload_n hx hb dL_law_2388 rfl (lv_at hl 2 rfl) ?_
  refine lv_iload hx hb dL_law_2389 (lv_at hl 1 rfl) ?_
  refine lv_iconst (v := nI 1) hx hb dL_law_2391 (by decide) ?_
  refine x_iadd (v := nI ((5 * j) + 1)) hx hb dL_law_2392 (nI_add _ _) ?_
  refine x_sld hx hb hX hbl (fun z9 => absurd hbl (Nat.not_lt.mpr z9)) hS (i := (5 * j) + 1) (by omega) (by omega) dL_law_2393 ?_
  refine k2_V hx hb hml hown hG cs_L_250 (hmd th) (by decide) (pzV (hK.sub (tys' := [(cI, .int), (cZ, .boolean)]) [0, 2] rfl) rfl hM.rc hM) rfl hl.1 rfl (Nat.le_of_ble_eq_true rfl) dL_law_2394 ⟨hcap.1, hcap.2⟩ rfl hS (fun q ⟨i, hi, e9⟩ => e9 ▸ hzd i hi) (fun H locs hM hz hk hS => ?_)
  have hW := hW.kept (fun i hi => hk _ (hW.lt hi) (had i hi))
  have hPo := oneK hPo (hk qo (va_lt hPo (k := 0) rfl) hdo)
  have hPd := oneK hPd (hk qd (va_lt hPd (k := 0) rfl) hdd)
  refine lv_istore (lv' := [(7, .int (t.2.1)), (6, .int (nI (t.1))), (5, .int (nI (5 * j))), (0, .ref (b)), (1, .ref (ad 0)), (2, .ref (d 0)), (3, .ref (qo)), (4, .ref (qd))]) hx hb dL_law_2397 hl (by decide) rfl (fun ls hl => ?_)
  refine lv_aload_n hx hb dL_law_2399 rfl (lv_at hl 5 rfl) ?_
  refine k1_V hx hb hml hown hG cs_L_151 (c5_thrown l D cI cZ d t.2.2 (nI t.1)) (by decide) (pzV (hK.sub (tys' := [(cI, .int), (cZ, .boolean)]) [0, 2] rfl) rfl hM.rc hM) rfl hl.1 rfl (Nat.le_of_ble_eq_true rfl) dL_law_2400 ⟨hcap.1, hcap.2⟩ rfl ?_
  refine lv_iload hx hb dL_law_2403 (lv_at hl 1 rfl) ?_
  refine x_cmp_eq (tgt := 2410) hx hb dL_law_2405 (by decide) (by omega) (by omega) (fun zc1 => ?_) (fun zc1 => False.elim (by exact absurd rfl zc1))
  refine lv_iload hx hb dL_law_2410 (lv_at hl 1 rfl) ?_
  refine x_if_ne (tgt := 2427) hx hb dL_law_2412 (by decide) (by omega) (fun c0 => ?_) (fun c0 => ?_)
  · refine lv_goto (tgt := 2880) hx hb dL_law_2427 (by decide) ?_
    exact kk t.2.2 _ _ ls ⟨hiv, hW, ⟨_, hM⟩, ⟨_, hPo⟩, ⟨_, hPd⟩, hS⟩ (lv_sub hl [2, 3, 4, 5, 6, 7] rfl)
  · refine lv_aload_n hx hb dL_law_2415 rfl (lv_at hl 6 rfl) ?_
    refine lv_iconst (v := nI 0) hx hb dL_law_2416 (by decide) ?_
    refine x_lald0 hx hb (hf c0) hK hPo 3 rfl dL_law_2417 ?_
    refine lv_iload hx hb dL_law_2418 (lv_at hl 0 rfl) ?_
    refine lv_i2l (v := Int32.toInt64 t.2.1) hx hb dL_law_2420 rfl ?_
    refine W.lcmp hx hb dL_law_2421 ?_
    refine x_lifo_eq (tgt := 2427) hx hb dL_law_2422 (by decide) (fun zc2 => ?_) (fun zc2 => False.elim (by exact absurd rfl zc2))
    refine lv_goto (tgt := 2880) hx hb dL_law_2427 (by decide) ?_
    exact kk t.2.2 _ _ ls ⟨hiv, hW, ⟨_, hM⟩, ⟨_, hPo⟩, ⟨_, hPd⟩, hS⟩ (lv_sub hl [2, 3, 4, 5, 6, 7] rfl)
set_option maxHeartbeats 4000000 in
set_option maxRecDepth 100000 in
theorem lc_sum {p : Program} {l : Launch} {e : Env} {s : State} {m : MethodId} {below : List Frame} {meth : Method} {c : Code} {b L : Nat} {xs : Nat → Int32} {D : va_G} {cI cC cZ cL cD : ClassId} {ad d ta : Nat → Nat} {qo qd : Nat} {Q : State → Prop} (hst : l.stackTraces = false) (C : LwC p s m c b L xs D cI cC cZ cL cD ad d ta qo qd) {S : St} {N : Nat} {H : Heap} {locs : List Loc} {cells slots j : Nat} {ls : Array Slot} (I : LwI D cI cC cZ cL cD ad d qo qd s S N H locs) (hj : 5 * j + 5 ≤ L) (hN : N + 2000 < 2 ^ 31) (hcap : cells + 1 ≤ room_1.cells ∧ slots + 6 ≤ room_1.slots) (hl : lv_has ls 10 [(5, .int (nI (5 * j))), (0, .ref (b)), (1, .ref (ad 0)), (2, .ref (d 0)), (3, .ref (qo)), (4, .ref (qd))]) (kk : ∀ (S1 : St) (H1 : Heap) (locs1 : List Loc) (ls1 : Array Slot), LwI D cI cC cZ cL cD ad d qo qd s S1 (N + 2000) H1 locs1 → lv_has ls1 10 [(5, .int (nI (5 * j))), (0, .ref (b)), (1, .ref (ad 0)), (2, .ref (d 0)), (3, .ref (qo)), (4, .ref (qd))] → W p l e room_1 s m #[Value.ref b] below meth c H1 locs1 (cells + 1) (slots + 6) Q (F0 m 2880 ls1 [])) : W p l e room_1 s m #[Value.ref b] below meth c H locs cells slots Q (F0 m 2430 ls []) := by
  obtain ⟨hx, hb, hml, hown, hG, hK, hE, hT, hZ, hX2, hX, hbl, hL, hap, hapd, hza, hzd, hzo, hzd2, hda, hqo, hqd, hdo, hdd, hne, had⟩ := C
  obtain ⟨hI, hW, ⟨th, hM⟩, ⟨fo, hPo⟩, ⟨gd, hPd⟩, hS⟩ := I
  have hb : c.code = cL_law := hb
  have hwr := fun (f : Nat → Int64) => wr_sum l hst D cI cC cL ad ta s.heap.size S N qo f (xs (5 * j + 1)) hI hN hap hqo
  have hmd := fun (th : Int32) => m_sum l D cI cZ d S th (xs (5 * j + 1)) hI hapd
  have hcd := cd_sum S (xs (5 * j + 1))
  have hiv : Inv (sp_sum S (xs (5 * j + 1))).2.2 := by rw [st_sum]; exact hI
  generalize sp_sum S (xs (5 * j + 1)) = t at hwr hmd hcd hiv
  have hc9 : t.1 ≤ 3 := by
    rcases hcd with h | h
    · omega
    · have h9 := h.1
      omega
  refine lv_aload_n hx hb dL_law_2430 rfl (lv_at hl 2 rfl) ?_
  refine lv_aload_n hx hb dL_law_2431 rfl (lv_at hl 1 rfl) ?_
  refine lv_iload hx hb dL_law_2432 (lv_at hl 0 rfl) ?_
  refine lv_iconst (v := nI 1) hx hb dL_law_2434 (by decide) ?_
  refine x_iadd (v := nI ((5 * j) + 1)) hx hb dL_law_2435 (nI_add _ _) ?_
  refine x_sld hx hb hX hbl (fun z9 => absurd hbl (Nat.not_lt.mpr z9)) hS (i := (5 * j) + 1) (by omega) (by omega) dL_law_2436 ?_
  refine lv_aload_n hx hb dL_law_2437 rfl (lv_at hl 4 rfl) ?_
  refine k2_SW hx hb hml hown hG csw_L_251 (hwr fo) (by decide) (pzwS (hK.sub (tys' := [(cI, .int), (cC, .char), (cL, .long)]) [0, 1, 3] rfl) hE hT hZ hX2 hS.2.1 ⟨hW, hPo⟩) rfl hl.1 rfl (Nat.le_of_ble_eq_true rfl) dL_law_2438 hcap rfl hS (fun q z9 => z9.elim (fun ⟨i, hi, e9⟩ => e9 ▸ hza i hi) (fun e9 => e9 ▸ hzo)) (fun H locs hB9 hz hk hS => ?_)
  obtain ⟨hW, f9, hPo, hf⟩ := hB9
  have hM := hM.kept (fun i hi => hk _ (hM.lt hi) (fun z9 => z9.elim (hda i hi) (fun e9 => hdo ⟨i, hi, e9.symm⟩)))
  have hPd := oneK hPd (hk qd (va_lt hPd (k := 0) rfl) (fun z9 => z9.elim hqd (fun e9 => hne e9.symm)))
  refine lv_istore (lv' := [(6, .int (nI (t.1))), (5, .int (nI (5 * j))), (0, .ref (b)), (1, .ref (ad 0)), (2, .ref (d 0)), (3, .ref (qo)), (4, .ref (qd))]) hx hb dL_law_2441 hl (by decide) rfl (fun ls hl => ?_)
  refine lv_aload_n hx hb dL_law_2443 rfl (lv_at hl 4 rfl) ?_
  refine lv_aload_n hx hb dL_law_2444 rfl (lv_at hl 2 rfl) ?_
  refine lv_iload hx hb dL_law_2445 (lv_at hl 1 rfl) ?_
  refine lv_iconst (v := nI 1) hx hb dL_law_2447 (by decide) ?_
  refine x_iadd (v := nI ((5 * j) + 1)) hx hb dL_law_2448 (nI_add _ _) ?_
  refine x_sld hx hb hX hbl (fun z9 => absurd hbl (Nat.not_lt.mpr z9)) hS (i := (5 * j) + 1) (by omega) (by omega) dL_law_2449 ?_
  refine k2_V hx hb hml hown hG cs_L_253 (hmd th) (by decide) (pzV (hK.sub (tys' := [(cI, .int), (cZ, .boolean)]) [0, 2] rfl) rfl hM.rc hM) rfl hl.1 rfl (Nat.le_of_ble_eq_true rfl) dL_law_2450 ⟨hcap.1, hcap.2⟩ rfl hS (fun q ⟨i, hi, e9⟩ => e9 ▸ hzd i hi) (fun H locs hM hz hk hS => ?_)
  have hW := hW.kept (fun i hi => hk _ (hW.lt hi) (had i hi))
  have hPo := oneK hPo (hk qo (va_lt hPo (k := 0) rfl) hdo)
  have hPd := oneK hPd (hk qd (va_lt hPd (k := 0) rfl) hdd)
  refine lv_lstore (lv' := [(7, .long (t.2.1)), (6, .int (nI (t.1))), (5, .int (nI (5 * j))), (0, .ref (b)), (1, .ref (ad 0)), (2, .ref (d 0)), (3, .ref (qo)), (4, .ref (qd))]) hx hb dL_law_2453 hl (by decide) rfl (fun ls hl => ?_)
  refine lv_aload_n hx hb dL_law_2455 rfl (lv_at hl 5 rfl) ?_
  refine k1_V hx hb hml hown hG cs_L_151 (c5_thrown l D cI cZ d t.2.2 (nI t.1)) (by decide) (pzV (hK.sub (tys' := [(cI, .int), (cZ, .boolean)]) [0, 2] rfl) rfl hM.rc hM) rfl hl.1 rfl (Nat.le_of_ble_eq_true rfl) dL_law_2456 ⟨hcap.1, hcap.2⟩ rfl ?_
  refine lv_iload hx hb dL_law_2459 (lv_at hl 1 rfl) ?_
  refine x_cmp_eq (tgt := 2466) hx hb dL_law_2461 (by decide) (by omega) (by omega) (fun zc1 => ?_) (fun zc1 => False.elim (by exact absurd rfl zc1))
  refine lv_iload hx hb dL_law_2466 (lv_at hl 1 rfl) ?_
  refine x_if_ne (tgt := 2482) hx hb dL_law_2468 (by decide) (by omega) (fun c0 => ?_) (fun c0 => ?_)
  · refine lv_goto (tgt := 2880) hx hb dL_law_2482 (by decide) ?_
    exact kk t.2.2 _ _ ls ⟨hiv, hW, ⟨_, hM⟩, ⟨_, hPo⟩, ⟨_, hPd⟩, hS⟩ (lv_sub hl [2, 3, 4, 5, 6, 7] rfl)
  · refine lv_aload_n hx hb dL_law_2471 rfl (lv_at hl 6 rfl) ?_
    refine lv_iconst (v := nI 0) hx hb dL_law_2472 (by decide) ?_
    refine x_lald0 hx hb (hf c0) hK hPo 3 rfl dL_law_2473 ?_
    refine lv_lload hx hb dL_law_2474 (lv_at hl 0 rfl) ?_
    refine W.lcmp hx hb dL_law_2476 ?_
    refine x_lifo_eq (tgt := 2482) hx hb dL_law_2477 (by decide) (fun zc2 => ?_) (fun zc2 => False.elim (by exact absurd rfl zc2))
    refine lv_goto (tgt := 2880) hx hb dL_law_2482 (by decide) ?_
    exact kk t.2.2 _ _ ls ⟨hiv, hW, ⟨_, hM⟩, ⟨_, hPo⟩, ⟨_, hPd⟩, hS⟩ (lv_sub hl [2, 3, 4, 5, 6, 7] rfl)
set_option maxHeartbeats 4000000 in
set_option maxRecDepth 100000 in
theorem lc_write {p : Program} {l : Launch} {e : Env} {s : State} {m : MethodId} {below : List Frame} {meth : Method} {c : Code} {b L : Nat} {xs : Nat → Int32} {D : va_G} {cI cC cZ cL cD : ClassId} {ad d ta : Nat → Nat} {qo qd : Nat} {Q : State → Prop} (hst : l.stackTraces = false) (C : LwC p s m c b L xs D cI cC cZ cL cD ad d ta qo qd) {S : St} {N : Nat} {H : Heap} {locs : List Loc} {cells slots j : Nat} {ls : Array Slot} (I : LwI D cI cC cZ cL cD ad d qo qd s S N H locs) (hj : 5 * j + 5 ≤ L) (hN : N + 2000 < 2 ^ 31) (hcap : cells + 1 ≤ room_1.cells ∧ slots + 6 ≤ room_1.slots) (hl : lv_has ls 10 [(5, .int (nI (5 * j))), (0, .ref (b)), (1, .ref (ad 0)), (2, .ref (d 0)), (3, .ref (qo)), (4, .ref (qd))]) (kk : ∀ (S1 : St) (H1 : Heap) (locs1 : List Loc) (ls1 : Array Slot), LwI D cI cC cZ cL cD ad d qo qd s S1 (N + 2000) H1 locs1 → lv_has ls1 10 [(5, .int (nI (5 * j))), (0, .ref (b)), (1, .ref (ad 0)), (2, .ref (d 0)), (3, .ref (qo)), (4, .ref (qd))] → W p l e room_1 s m #[Value.ref b] below meth c H1 locs1 (cells + 1) (slots + 6) Q (F0 m 2880 ls1 [])) : W p l e room_1 s m #[Value.ref b] below meth c H locs cells slots Q (F0 m 2485 ls []) := by
  obtain ⟨hx, hb, hml, hown, hG, hK, hE, hT, hZ, hX2, hX, hbl, hL, hap, hapd, hza, hzd, hzo, hzd2, hda, hqo, hqd, hdo, hdd, hne, had⟩ := C
  obtain ⟨hI, hW, ⟨th, hM⟩, ⟨fo, hPo⟩, ⟨gd, hPd⟩, hS⟩ := I
  have hb : c.code = cL_law := hb
  have hwr := fun (f : Nat → Int64) => wr_write l hst D cI cC cL ad ta s.heap.size S N qo f (xs (5 * j + 1)) hI hN hap hqo
  have hmd := fun (th : Int32) => m_write l D cI cZ d S th (xs (5 * j + 1)) hI hapd
  have hcd := cd_write S (xs (5 * j + 1))
  have hiv := inv_write (xs (5 * j + 1)) hI
  generalize sp_write S (xs (5 * j + 1)) = t at hwr hmd hcd hiv
  have hc9 : t.1 ≤ 3 := by
    rcases hcd with h | h
    · omega
    · have h9 := h.1
      omega
  refine lv_aload_n hx hb dL_law_2485 rfl (lv_at hl 2 rfl) ?_
  refine lv_aload_n hx hb dL_law_2486 rfl (lv_at hl 1 rfl) ?_
  refine lv_iload hx hb dL_law_2487 (lv_at hl 0 rfl) ?_
  refine lv_iconst (v := nI 1) hx hb dL_law_2489 (by decide) ?_
  refine x_iadd (v := nI ((5 * j) + 1)) hx hb dL_law_2490 (nI_add _ _) ?_
  refine x_sld hx hb hX hbl (fun z9 => absurd hbl (Nat.not_lt.mpr z9)) hS (i := (5 * j) + 1) (by omega) (by omega) dL_law_2491 ?_
  refine lv_aload_n hx hb dL_law_2492 rfl (lv_at hl 4 rfl) ?_
  refine k2_SW hx hb hml hown hG csw_L_254 (hwr fo) (by decide) (pzwS (hK.sub (tys' := [(cI, .int), (cC, .char), (cL, .long)]) [0, 1, 3] rfl) hE hT hZ hX2 hS.2.1 ⟨hW, hPo⟩) rfl hl.1 rfl (Nat.le_of_ble_eq_true rfl) dL_law_2493 hcap rfl hS (fun q z9 => z9.elim (fun ⟨i, hi, e9⟩ => e9 ▸ hza i hi) (fun e9 => e9 ▸ hzo)) (fun H locs hB9 hz hk hS => ?_)
  obtain ⟨hW, f9, hPo, hf⟩ := hB9
  have hM := hM.kept (fun i hi => hk _ (hM.lt hi) (fun z9 => z9.elim (hda i hi) (fun e9 => hdo ⟨i, hi, e9.symm⟩)))
  have hPd := oneK hPd (hk qd (va_lt hPd (k := 0) rfl) (fun z9 => z9.elim hqd (fun e9 => hne e9.symm)))
  refine lv_istore (lv' := [(6, .int (nI (t.1))), (5, .int (nI (5 * j))), (0, .ref (b)), (1, .ref (ad 0)), (2, .ref (d 0)), (3, .ref (qo)), (4, .ref (qd))]) hx hb dL_law_2496 hl (by decide) rfl (fun ls hl => ?_)
  refine lv_aload_n hx hb dL_law_2498 rfl (lv_at hl 4 rfl) ?_
  refine lv_aload_n hx hb dL_law_2499 rfl (lv_at hl 2 rfl) ?_
  refine lv_iload hx hb dL_law_2500 (lv_at hl 1 rfl) ?_
  refine lv_iconst (v := nI 1) hx hb dL_law_2502 (by decide) ?_
  refine x_iadd (v := nI ((5 * j) + 1)) hx hb dL_law_2503 (nI_add _ _) ?_
  refine x_sld hx hb hX hbl (fun z9 => absurd hbl (Nat.not_lt.mpr z9)) hS (i := (5 * j) + 1) (by omega) (by omega) dL_law_2504 ?_
  refine k2_V hx hb hml hown hG cs_L_256 (hmd th) (by decide) (pzV (hK.sub (tys' := [(cI, .int), (cZ, .boolean)]) [0, 2] rfl) rfl hM.rc hM) rfl hl.1 rfl (Nat.le_of_ble_eq_true rfl) dL_law_2505 ⟨hcap.1, hcap.2⟩ rfl hS (fun q ⟨i, hi, e9⟩ => e9 ▸ hzd i hi) (fun H locs hM hz hk hS => ?_)
  have hW := hW.kept (fun i hi => hk _ (hW.lt hi) (had i hi))
  have hPo := oneK hPo (hk qo (va_lt hPo (k := 0) rfl) hdo)
  have hPd := oneK hPd (hk qd (va_lt hPd (k := 0) rfl) hdd)
  refine lv_istore (lv' := [(7, .int (t.2.1)), (6, .int (nI (t.1))), (5, .int (nI (5 * j))), (0, .ref (b)), (1, .ref (ad 0)), (2, .ref (d 0)), (3, .ref (qo)), (4, .ref (qd))]) hx hb dL_law_2508 hl (by decide) rfl (fun ls hl => ?_)
  refine lv_aload_n hx hb dL_law_2510 rfl (lv_at hl 5 rfl) ?_
  refine k1_V hx hb hml hown hG cs_L_151 (c5_thrown l D cI cZ d t.2.2 (nI t.1)) (by decide) (pzV (hK.sub (tys' := [(cI, .int), (cZ, .boolean)]) [0, 2] rfl) rfl hM.rc hM) rfl hl.1 rfl (Nat.le_of_ble_eq_true rfl) dL_law_2511 ⟨hcap.1, hcap.2⟩ rfl ?_
  refine lv_iload hx hb dL_law_2514 (lv_at hl 1 rfl) ?_
  refine x_cmp_eq (tgt := 2521) hx hb dL_law_2516 (by decide) (by omega) (by omega) (fun zc1 => ?_) (fun zc1 => False.elim (by exact absurd rfl zc1))
  refine lv_iload hx hb dL_law_2521 (lv_at hl 1 rfl) ?_
  refine x_if_ne (tgt := 2538) hx hb dL_law_2523 (by decide) (by omega) (fun c0 => ?_) (fun c0 => ?_)
  · refine lv_goto (tgt := 2880) hx hb dL_law_2538 (by decide) ?_
    exact kk t.2.2 _ _ ls ⟨hiv, hW, ⟨_, hM⟩, ⟨_, hPo⟩, ⟨_, hPd⟩, hS⟩ (lv_sub hl [2, 3, 4, 5, 6, 7] rfl)
  · refine lv_aload_n hx hb dL_law_2526 rfl (lv_at hl 6 rfl) ?_
    refine lv_iconst (v := nI 0) hx hb dL_law_2527 (by decide) ?_
    refine x_lald0 hx hb (hf c0) hK hPo 3 rfl dL_law_2528 ?_
    refine lv_iload hx hb dL_law_2529 (lv_at hl 0 rfl) ?_
    refine lv_i2l (v := Int32.toInt64 t.2.1) hx hb dL_law_2531 rfl ?_
    refine W.lcmp hx hb dL_law_2532 ?_
    refine x_lifo_eq (tgt := 2538) hx hb dL_law_2533 (by decide) (fun zc2 => ?_) (fun zc2 => False.elim (by exact absurd rfl zc2))
    refine lv_goto (tgt := 2880) hx hb dL_law_2538 (by decide) ?_
    exact kk t.2.2 _ _ ls ⟨hiv, hW, ⟨_, hM⟩, ⟨_, hPo⟩, ⟨_, hPd⟩, hS⟩ (lv_sub hl [2, 3, 4, 5, 6, 7] rfl)
set_option maxHeartbeats 4000000 in
set_option maxRecDepth 100000 in
theorem lc_outputAt {p : Program} {l : Launch} {e : Env} {s : State} {m : MethodId} {below : List Frame} {meth : Method} {c : Code} {b L : Nat} {xs : Nat → Int32} {D : va_G} {cI cC cZ cL cD : ClassId} {ad d ta : Nat → Nat} {qo qd : Nat} {Q : State → Prop} (hst : l.stackTraces = false) (C : LwC p s m c b L xs D cI cC cZ cL cD ad d ta qo qd) {S : St} {N : Nat} {H : Heap} {locs : List Loc} {cells slots j : Nat} {ls : Array Slot} (I : LwI D cI cC cZ cL cD ad d qo qd s S N H locs) (hj : 5 * j + 5 ≤ L) (hN : N + 2000 < 2 ^ 31) (hcap : cells + 1 ≤ room_1.cells ∧ slots + 6 ≤ room_1.slots) (hl : lv_has ls 10 [(5, .int (nI (5 * j))), (0, .ref (b)), (1, .ref (ad 0)), (2, .ref (d 0)), (3, .ref (qo)), (4, .ref (qd))]) (kk : ∀ (S1 : St) (H1 : Heap) (locs1 : List Loc) (ls1 : Array Slot), LwI D cI cC cZ cL cD ad d qo qd s S1 (N + 2000) H1 locs1 → lv_has ls1 10 [(5, .int (nI (5 * j))), (0, .ref (b)), (1, .ref (ad 0)), (2, .ref (d 0)), (3, .ref (qo)), (4, .ref (qd))] → W p l e room_1 s m #[Value.ref b] below meth c H1 locs1 (cells + 1) (slots + 6) Q (F0 m 2880 ls1 [])) : W p l e room_1 s m #[Value.ref b] below meth c H locs cells slots Q (F0 m 2541 ls []) := by
  obtain ⟨hx, hb, hml, hown, hG, hK, hE, hT, hZ, hX2, hX, hbl, hL, hap, hapd, hza, hzd, hzo, hzd2, hda, hqo, hqd, hdo, hdd, hne, had⟩ := C
  obtain ⟨hI, hW, ⟨th, hM⟩, ⟨fo, hPo⟩, ⟨gd, hPd⟩, hS⟩ := I
  have hb : c.code = cL_law := hb
  have hwr := fun (f : Nat → Int64) => wr_outputAt l hst D cI cC cL ad ta s.heap.size S N qo f (xs (5 * j + 1)) hI hN hap hqo
  have hmd := fun (th : Int32) => m_outputAt l D cI cZ d S th (xs (5 * j + 1)) hI hapd
  have hcd := cd_outputAt S (xs (5 * j + 1))
  have hiv : Inv (sp_outputAt S (xs (5 * j + 1))).2.2 := by rw [st_outputAt]; exact hI
  generalize sp_outputAt S (xs (5 * j + 1)) = t at hwr hmd hcd hiv
  have hc9 : t.1 ≤ 3 := by
    rcases hcd with h | h
    · omega
    · have h9 := h.1
      omega
  refine lv_aload_n hx hb dL_law_2541 rfl (lv_at hl 2 rfl) ?_
  refine lv_aload_n hx hb dL_law_2542 rfl (lv_at hl 1 rfl) ?_
  refine lv_iload hx hb dL_law_2543 (lv_at hl 0 rfl) ?_
  refine lv_iconst (v := nI 1) hx hb dL_law_2545 (by decide) ?_
  refine x_iadd (v := nI ((5 * j) + 1)) hx hb dL_law_2546 (nI_add _ _) ?_
  refine x_sld hx hb hX hbl (fun z9 => absurd hbl (Nat.not_lt.mpr z9)) hS (i := (5 * j) + 1) (by omega) (by omega) dL_law_2547 ?_
  refine lv_aload_n hx hb dL_law_2548 rfl (lv_at hl 4 rfl) ?_
  refine k2_SW hx hb hml hown hG csw_L_257 (hwr fo) (by decide) (pzwS (hK.sub (tys' := [(cI, .int), (cC, .char), (cL, .long)]) [0, 1, 3] rfl) hE hT hZ hX2 hS.2.1 ⟨hW, hPo⟩) rfl hl.1 rfl (Nat.le_of_ble_eq_true rfl) dL_law_2549 hcap rfl hS (fun q z9 => z9.elim (fun ⟨i, hi, e9⟩ => e9 ▸ hza i hi) (fun e9 => e9 ▸ hzo)) (fun H locs hB9 hz hk hS => ?_)
  obtain ⟨hW, f9, hPo, hf⟩ := hB9
  have hM := hM.kept (fun i hi => hk _ (hM.lt hi) (fun z9 => z9.elim (hda i hi) (fun e9 => hdo ⟨i, hi, e9.symm⟩)))
  have hPd := oneK hPd (hk qd (va_lt hPd (k := 0) rfl) (fun z9 => z9.elim hqd (fun e9 => hne e9.symm)))
  refine lv_istore (lv' := [(6, .int (nI (t.1))), (5, .int (nI (5 * j))), (0, .ref (b)), (1, .ref (ad 0)), (2, .ref (d 0)), (3, .ref (qo)), (4, .ref (qd))]) hx hb dL_law_2552 hl (by decide) rfl (fun ls hl => ?_)
  refine lv_aload_n hx hb dL_law_2554 rfl (lv_at hl 4 rfl) ?_
  refine lv_aload_n hx hb dL_law_2555 rfl (lv_at hl 2 rfl) ?_
  refine lv_iload hx hb dL_law_2556 (lv_at hl 1 rfl) ?_
  refine lv_iconst (v := nI 1) hx hb dL_law_2558 (by decide) ?_
  refine x_iadd (v := nI ((5 * j) + 1)) hx hb dL_law_2559 (nI_add _ _) ?_
  refine x_sld hx hb hX hbl (fun z9 => absurd hbl (Nat.not_lt.mpr z9)) hS (i := (5 * j) + 1) (by omega) (by omega) dL_law_2560 ?_
  refine k2_V hx hb hml hown hG cs_L_259 (hmd th) (by decide) (pzV (hK.sub (tys' := [(cI, .int), (cZ, .boolean)]) [0, 2] rfl) rfl hM.rc hM) rfl hl.1 rfl (Nat.le_of_ble_eq_true rfl) dL_law_2561 ⟨hcap.1, hcap.2⟩ rfl hS (fun q ⟨i, hi, e9⟩ => e9 ▸ hzd i hi) (fun H locs hM hz hk hS => ?_)
  have hW := hW.kept (fun i hi => hk _ (hW.lt hi) (had i hi))
  have hPo := oneK hPo (hk qo (va_lt hPo (k := 0) rfl) hdo)
  have hPd := oneK hPd (hk qd (va_lt hPd (k := 0) rfl) hdd)
  refine lv_istore (lv' := [(7, .int (t.2.1)), (6, .int (nI (t.1))), (5, .int (nI (5 * j))), (0, .ref (b)), (1, .ref (ad 0)), (2, .ref (d 0)), (3, .ref (qo)), (4, .ref (qd))]) hx hb dL_law_2564 hl (by decide) rfl (fun ls hl => ?_)
  refine lv_aload_n hx hb dL_law_2566 rfl (lv_at hl 5 rfl) ?_
  refine k1_V hx hb hml hown hG cs_L_151 (c5_thrown l D cI cZ d t.2.2 (nI t.1)) (by decide) (pzV (hK.sub (tys' := [(cI, .int), (cZ, .boolean)]) [0, 2] rfl) rfl hM.rc hM) rfl hl.1 rfl (Nat.le_of_ble_eq_true rfl) dL_law_2567 ⟨hcap.1, hcap.2⟩ rfl ?_
  refine lv_iload hx hb dL_law_2570 (lv_at hl 1 rfl) ?_
  refine x_cmp_eq (tgt := 2577) hx hb dL_law_2572 (by decide) (by omega) (by omega) (fun zc1 => ?_) (fun zc1 => False.elim (by exact absurd rfl zc1))
  refine lv_iload hx hb dL_law_2577 (lv_at hl 1 rfl) ?_
  refine x_if_ne (tgt := 2594) hx hb dL_law_2579 (by decide) (by omega) (fun c0 => ?_) (fun c0 => ?_)
  · refine lv_goto (tgt := 2880) hx hb dL_law_2594 (by decide) ?_
    exact kk t.2.2 _ _ ls ⟨hiv, hW, ⟨_, hM⟩, ⟨_, hPo⟩, ⟨_, hPd⟩, hS⟩ (lv_sub hl [2, 3, 4, 5, 6, 7] rfl)
  · refine lv_aload_n hx hb dL_law_2582 rfl (lv_at hl 6 rfl) ?_
    refine lv_iconst (v := nI 0) hx hb dL_law_2583 (by decide) ?_
    refine x_lald0 hx hb (hf c0) hK hPo 3 rfl dL_law_2584 ?_
    refine lv_iload hx hb dL_law_2585 (lv_at hl 0 rfl) ?_
    refine lv_i2l (v := Int32.toInt64 t.2.1) hx hb dL_law_2587 rfl ?_
    refine W.lcmp hx hb dL_law_2588 ?_
    refine x_lifo_eq (tgt := 2594) hx hb dL_law_2589 (by decide) (fun zc2 => ?_) (fun zc2 => False.elim (by exact absurd rfl zc2))
    refine lv_goto (tgt := 2880) hx hb dL_law_2594 (by decide) ?_
    exact kk t.2.2 _ _ ls ⟨hiv, hW, ⟨_, hM⟩, ⟨_, hPo⟩, ⟨_, hPd⟩, hS⟩ (lv_sub hl [2, 3, 4, 5, 6, 7] rfl)
set_option maxHeartbeats 4000000 in
set_option maxRecDepth 100000 in
theorem lc_isAddRefused {p : Program} {l : Launch} {e : Env} {s : State} {m : MethodId} {below : List Frame} {meth : Method} {c : Code} {b L : Nat} {xs : Nat → Int32} {D : va_G} {cI cC cZ cL cD : ClassId} {ad d ta : Nat → Nat} {qo qd : Nat} {Q : State → Prop} (hst : l.stackTraces = false) (C : LwC p s m c b L xs D cI cC cZ cL cD ad d ta qo qd) {S : St} {N : Nat} {H : Heap} {locs : List Loc} {cells slots j : Nat} {ls : Array Slot} (I : LwI D cI cC cZ cL cD ad d qo qd s S N H locs) (hj : 5 * j + 5 ≤ L) (hN : N + 2000 < 2 ^ 31) (hcap : cells + 1 ≤ room_1.cells ∧ slots + 6 ≤ room_1.slots) (hl : lv_has ls 10 [(5, .int (nI (5 * j))), (0, .ref (b)), (1, .ref (ad 0)), (2, .ref (d 0)), (3, .ref (qo)), (4, .ref (qd))]) (kk : ∀ (S1 : St) (H1 : Heap) (locs1 : List Loc) (ls1 : Array Slot), LwI D cI cC cZ cL cD ad d qo qd s S1 (N + 2000) H1 locs1 → lv_has ls1 10 [(5, .int (nI (5 * j))), (0, .ref (b)), (1, .ref (ad 0)), (2, .ref (d 0)), (3, .ref (qo)), (4, .ref (qd))] → W p l e room_1 s m #[Value.ref b] below meth c H1 locs1 (cells + 1) (slots + 6) Q (F0 m 2880 ls1 [])) : W p l e room_1 s m #[Value.ref b] below meth c H locs cells slots Q (F0 m 2597 ls []) := by
  obtain ⟨hx, hb, hml, hown, hG, hK, hE, hT, hZ, hX2, hX, hbl, hL, hap, hapd, hza, hzd, hzo, hzd2, hda, hqo, hqd, hdo, hdd, hne, had⟩ := C
  obtain ⟨hI, hW, ⟨th, hM⟩, ⟨fo, hPo⟩, ⟨gd, hPd⟩, hS⟩ := I
  have hb : c.code = cL_law := hb
  have hwr := fun (f : Nat → Int64) => wr_isAddRefused l hst D cI cC cL ad ta s.heap.size S N qo f (xs (5 * j + 1)) (xs (5 * j + 2)) hI hN hap hqo
  have hmd := fun (th : Int32) => m_isAddRefused l D cI cZ d S th (xs (5 * j + 1)) (xs (5 * j + 2)) hI hapd
  have hcd := cd_isAddRefused S (xs (5 * j + 1)) (xs (5 * j + 2))
  have hiv : Inv (sp_isAddRefused S (xs (5 * j + 1)) (xs (5 * j + 2))).2.2 := by rw [st_isAddRefused]; exact hI
  generalize sp_isAddRefused S (xs (5 * j + 1)) (xs (5 * j + 2)) = t at hwr hmd hcd hiv
  have hc9 : t.1 ≤ 3 := by
    rcases hcd with h | h
    · omega
    · have h9 := h.1
      omega
  refine lv_aload_n hx hb dL_law_2597 rfl (lv_at hl 2 rfl) ?_
  refine lv_aload_n hx hb dL_law_2598 rfl (lv_at hl 1 rfl) ?_
  refine lv_iload hx hb dL_law_2599 (lv_at hl 0 rfl) ?_
  refine lv_iconst (v := nI 1) hx hb dL_law_2601 (by decide) ?_
  refine x_iadd (v := nI ((5 * j) + 1)) hx hb dL_law_2602 (nI_add _ _) ?_
  refine x_sld hx hb hX hbl (fun z9 => absurd hbl (Nat.not_lt.mpr z9)) hS (i := (5 * j) + 1) (by omega) (by omega) dL_law_2603 ?_
  refine lv_aload_n hx hb dL_law_2604 rfl (lv_at hl 1 rfl) ?_
  refine lv_iload hx hb dL_law_2605 (lv_at hl 0 rfl) ?_
  refine lv_iconst (v := nI 2) hx hb dL_law_2607 (by decide) ?_
  refine x_iadd (v := nI ((5 * j) + 2)) hx hb dL_law_2608 (nI_add _ _) ?_
  refine x_sld hx hb hX hbl (fun z9 => absurd hbl (Nat.not_lt.mpr z9)) hS (i := (5 * j) + 2) (by omega) (by omega) dL_law_2609 ?_
  refine lv_aload_n hx hb dL_law_2610 rfl (lv_at hl 4 rfl) ?_
  refine k2_SW hx hb hml hown hG csw_L_260 (hwr fo) (by decide) (pzwS (hK.sub (tys' := [(cI, .int), (cC, .char), (cL, .long)]) [0, 1, 3] rfl) hE hT hZ hX2 hS.2.1 ⟨hW, hPo⟩) rfl hl.1 rfl (Nat.le_of_ble_eq_true rfl) dL_law_2611 hcap rfl hS (fun q z9 => z9.elim (fun ⟨i, hi, e9⟩ => e9 ▸ hza i hi) (fun e9 => e9 ▸ hzo)) (fun H locs hB9 hz hk hS => ?_)
  obtain ⟨hW, f9, hPo, hf⟩ := hB9
  have hM := hM.kept (fun i hi => hk _ (hM.lt hi) (fun z9 => z9.elim (hda i hi) (fun e9 => hdo ⟨i, hi, e9.symm⟩)))
  have hPd := oneK hPd (hk qd (va_lt hPd (k := 0) rfl) (fun z9 => z9.elim hqd (fun e9 => hne e9.symm)))
  refine lv_istore (lv' := [(6, .int (nI (t.1))), (5, .int (nI (5 * j))), (0, .ref (b)), (1, .ref (ad 0)), (2, .ref (d 0)), (3, .ref (qo)), (4, .ref (qd))]) hx hb dL_law_2614 hl (by decide) rfl (fun ls hl => ?_)
  refine lv_aload_n hx hb dL_law_2616 rfl (lv_at hl 4 rfl) ?_
  refine lv_aload_n hx hb dL_law_2617 rfl (lv_at hl 2 rfl) ?_
  refine lv_iload hx hb dL_law_2618 (lv_at hl 1 rfl) ?_
  refine lv_iconst (v := nI 1) hx hb dL_law_2620 (by decide) ?_
  refine x_iadd (v := nI ((5 * j) + 1)) hx hb dL_law_2621 (nI_add _ _) ?_
  refine x_sld hx hb hX hbl (fun z9 => absurd hbl (Nat.not_lt.mpr z9)) hS (i := (5 * j) + 1) (by omega) (by omega) dL_law_2622 ?_
  refine lv_aload_n hx hb dL_law_2623 rfl (lv_at hl 2 rfl) ?_
  refine lv_iload hx hb dL_law_2624 (lv_at hl 1 rfl) ?_
  refine lv_iconst (v := nI 2) hx hb dL_law_2626 (by decide) ?_
  refine x_iadd (v := nI ((5 * j) + 2)) hx hb dL_law_2627 (nI_add _ _) ?_
  refine x_sld hx hb hX hbl (fun z9 => absurd hbl (Nat.not_lt.mpr z9)) hS (i := (5 * j) + 2) (by omega) (by omega) dL_law_2628 ?_
  refine k2_V hx hb hml hown hG cs_L_262 (hmd th) (by decide) (pzV (hK.sub (tys' := [(cI, .int), (cZ, .boolean)]) [0, 2] rfl) rfl hM.rc hM) rfl hl.1 rfl (Nat.le_of_ble_eq_true rfl) dL_law_2629 ⟨hcap.1, hcap.2⟩ rfl hS (fun q ⟨i, hi, e9⟩ => e9 ▸ hzd i hi) (fun H locs hM hz hk hS => ?_)
  have hW := hW.kept (fun i hi => hk _ (hW.lt hi) (had i hi))
  have hPo := oneK hPo (hk qo (va_lt hPo (k := 0) rfl) hdo)
  have hPd := oneK hPd (hk qd (va_lt hPd (k := 0) rfl) hdd)
  refine lv_istore (lv' := [(7, .int (bI (t.2.1))), (6, .int (nI (t.1))), (5, .int (nI (5 * j))), (0, .ref (b)), (1, .ref (ad 0)), (2, .ref (d 0)), (3, .ref (qo)), (4, .ref (qd))]) hx hb dL_law_2632 hl (by decide) rfl (fun ls hl => ?_)
  refine lv_aload_n hx hb dL_law_2634 rfl (lv_at hl 5 rfl) ?_
  refine k1_V hx hb hml hown hG cs_L_151 (c5_thrown l D cI cZ d t.2.2 (nI t.1)) (by decide) (pzV (hK.sub (tys' := [(cI, .int), (cZ, .boolean)]) [0, 2] rfl) rfl hM.rc hM) rfl hl.1 rfl (Nat.le_of_ble_eq_true rfl) dL_law_2635 ⟨hcap.1, hcap.2⟩ rfl ?_
  refine lv_iload hx hb dL_law_2638 (lv_at hl 1 rfl) ?_
  refine x_cmp_eq (tgt := 2645) hx hb dL_law_2640 (by decide) (by omega) (by omega) (fun zc1 => ?_) (fun zc1 => False.elim (by exact absurd rfl zc1))
  refine lv_iload hx hb dL_law_2645 (lv_at hl 1 rfl) ?_
  refine x_if_ne (tgt := 2669) hx hb dL_law_2647 (by decide) (by omega) (fun c0 => ?_) (fun c0 => ?_)
  · refine lv_goto (tgt := 2880) hx hb dL_law_2669 (by decide) ?_
    exact kk t.2.2 _ _ ls ⟨hiv, hW, ⟨_, hM⟩, ⟨_, hPo⟩, ⟨_, hPd⟩, hS⟩ (lv_sub hl [2, 3, 4, 5, 6, 7] rfl)
  · refine lv_aload_n hx hb dL_law_2650 rfl (lv_at hl 6 rfl) ?_
    refine lv_iconst (v := nI 0) hx hb dL_law_2651 (by decide) ?_
    refine x_lald0 hx hb (hf c0) hK hPo 3 rfl dL_law_2652 ?_
    refine lv_iload hx hb dL_law_2653 (lv_at hl 0 rfl) ?_
    refine x_ifb_eq (tgt := 2662) hx hb dL_law_2655 (by decide) (fun c1 => ?_) (fun c1 => ?_)
    · refine lv_lconst (v := lN (0)) hx hb dL_law_2662 (by decide) ?_
      refine W.lcmp hx hb dL_law_2663 ?_
      refine x_lifo_eq (tgt := 2669) hx hb dL_law_2664 (by decide) (fun zc2 => ?_) (fun zc2 => False.elim (by exact absurd (by rw [c1]; rfl) zc2))
      refine lv_goto (tgt := 2880) hx hb dL_law_2669 (by decide) ?_
      exact kk t.2.2 _ _ ls ⟨hiv, hW, ⟨_, hM⟩, ⟨_, hPo⟩, ⟨_, hPd⟩, hS⟩ (lv_sub hl [2, 3, 4, 5, 6, 7] rfl)
    · refine lv_lconst (v := lN (1)) hx hb dL_law_2658 (by decide) ?_
      refine lv_goto (tgt := 2663) hx hb dL_law_2659 (by decide) ?_
      refine W.lcmp hx hb dL_law_2663 ?_
      refine x_lifo_eq (tgt := 2669) hx hb dL_law_2664 (by decide) (fun zc3 => ?_) (fun zc3 => False.elim (by exact absurd (by rw [c1]; rfl) zc3))
      refine lv_goto (tgt := 2880) hx hb dL_law_2669 (by decide) ?_
      exact kk t.2.2 _ _ ls ⟨hiv, hW, ⟨_, hM⟩, ⟨_, hPo⟩, ⟨_, hPd⟩, hS⟩ (lv_sub hl [2, 3, 4, 5, 6, 7] rfl)
set_option maxHeartbeats 4000000 in
set_option maxRecDepth 100000 in
theorem lc_isNothingRefused {p : Program} {l : Launch} {e : Env} {s : State} {m : MethodId} {below : List Frame} {meth : Method} {c : Code} {b L : Nat} {xs : Nat → Int32} {D : va_G} {cI cC cZ cL cD : ClassId} {ad d ta : Nat → Nat} {qo qd : Nat} {Q : State → Prop} (hst : l.stackTraces = false) (C : LwC p s m c b L xs D cI cC cZ cL cD ad d ta qo qd) {S : St} {N : Nat} {H : Heap} {locs : List Loc} {cells slots j : Nat} {ls : Array Slot} (I : LwI D cI cC cZ cL cD ad d qo qd s S N H locs) (hj : 5 * j + 5 ≤ L) (hN : N + 2000 < 2 ^ 31) (hcap : cells + 1 ≤ room_1.cells ∧ slots + 6 ≤ room_1.slots) (hl : lv_has ls 10 [(5, .int (nI (5 * j))), (0, .ref (b)), (1, .ref (ad 0)), (2, .ref (d 0)), (3, .ref (qo)), (4, .ref (qd))]) (kk : ∀ (S1 : St) (H1 : Heap) (locs1 : List Loc) (ls1 : Array Slot), LwI D cI cC cZ cL cD ad d qo qd s S1 (N + 2000) H1 locs1 → lv_has ls1 10 [(5, .int (nI (5 * j))), (0, .ref (b)), (1, .ref (ad 0)), (2, .ref (d 0)), (3, .ref (qo)), (4, .ref (qd))] → W p l e room_1 s m #[Value.ref b] below meth c H1 locs1 (cells + 1) (slots + 6) Q (F0 m 2880 ls1 [])) : W p l e room_1 s m #[Value.ref b] below meth c H locs cells slots Q (F0 m 2672 ls []) := by
  obtain ⟨hx, hb, hml, hown, hG, hK, hE, hT, hZ, hX2, hX, hbl, hL, hap, hapd, hza, hzd, hzo, hzd2, hda, hqo, hqd, hdo, hdd, hne, had⟩ := C
  obtain ⟨hI, hW, ⟨th, hM⟩, ⟨fo, hPo⟩, ⟨gd, hPd⟩, hS⟩ := I
  have hb : c.code = cL_law := hb
  have hwr := fun (f : Nat → Int64) => wr_isNothingRefused l hst D cI cC cL ad ta s.heap.size S N qo f (xs (5 * j + 1)) (xs (5 * j + 2)) hI hN hap hqo
  have hmd := fun (th : Int32) => m_isNothingRefused l D cI cZ d S th (xs (5 * j + 1)) (xs (5 * j + 2)) hI hapd
  have hcd := cd_isNothingRefused S (xs (5 * j + 1)) (xs (5 * j + 2))
  have hiv : Inv (sp_isNothingRefused S (xs (5 * j + 1)) (xs (5 * j + 2))).2.2 := by rw [st_isNothingRefused]; exact hI
  generalize sp_isNothingRefused S (xs (5 * j + 1)) (xs (5 * j + 2)) = t at hwr hmd hcd hiv
  have hc9 : t.1 ≤ 3 := by
    rcases hcd with h | h
    · omega
    · have h9 := h.1
      omega
  refine lv_aload_n hx hb dL_law_2672 rfl (lv_at hl 2 rfl) ?_
  refine lv_aload_n hx hb dL_law_2673 rfl (lv_at hl 1 rfl) ?_
  refine lv_iload hx hb dL_law_2674 (lv_at hl 0 rfl) ?_
  refine lv_iconst (v := nI 1) hx hb dL_law_2676 (by decide) ?_
  refine x_iadd (v := nI ((5 * j) + 1)) hx hb dL_law_2677 (nI_add _ _) ?_
  refine x_sld hx hb hX hbl (fun z9 => absurd hbl (Nat.not_lt.mpr z9)) hS (i := (5 * j) + 1) (by omega) (by omega) dL_law_2678 ?_
  refine lv_aload_n hx hb dL_law_2679 rfl (lv_at hl 1 rfl) ?_
  refine lv_iload hx hb dL_law_2680 (lv_at hl 0 rfl) ?_
  refine lv_iconst (v := nI 2) hx hb dL_law_2682 (by decide) ?_
  refine x_iadd (v := nI ((5 * j) + 2)) hx hb dL_law_2683 (nI_add _ _) ?_
  refine x_sld hx hb hX hbl (fun z9 => absurd hbl (Nat.not_lt.mpr z9)) hS (i := (5 * j) + 2) (by omega) (by omega) dL_law_2684 ?_
  refine lv_aload_n hx hb dL_law_2685 rfl (lv_at hl 4 rfl) ?_
  refine k2_SW hx hb hml hown hG csw_L_263 (hwr fo) (by decide) (pzwS (hK.sub (tys' := [(cI, .int), (cC, .char), (cL, .long)]) [0, 1, 3] rfl) hE hT hZ hX2 hS.2.1 ⟨hW, hPo⟩) rfl hl.1 rfl (Nat.le_of_ble_eq_true rfl) dL_law_2686 hcap rfl hS (fun q z9 => z9.elim (fun ⟨i, hi, e9⟩ => e9 ▸ hza i hi) (fun e9 => e9 ▸ hzo)) (fun H locs hB9 hz hk hS => ?_)
  obtain ⟨hW, f9, hPo, hf⟩ := hB9
  have hM := hM.kept (fun i hi => hk _ (hM.lt hi) (fun z9 => z9.elim (hda i hi) (fun e9 => hdo ⟨i, hi, e9.symm⟩)))
  have hPd := oneK hPd (hk qd (va_lt hPd (k := 0) rfl) (fun z9 => z9.elim hqd (fun e9 => hne e9.symm)))
  refine lv_istore (lv' := [(6, .int (nI (t.1))), (5, .int (nI (5 * j))), (0, .ref (b)), (1, .ref (ad 0)), (2, .ref (d 0)), (3, .ref (qo)), (4, .ref (qd))]) hx hb dL_law_2689 hl (by decide) rfl (fun ls hl => ?_)
  refine lv_aload_n hx hb dL_law_2691 rfl (lv_at hl 4 rfl) ?_
  refine lv_aload_n hx hb dL_law_2692 rfl (lv_at hl 2 rfl) ?_
  refine lv_iload hx hb dL_law_2693 (lv_at hl 1 rfl) ?_
  refine lv_iconst (v := nI 1) hx hb dL_law_2695 (by decide) ?_
  refine x_iadd (v := nI ((5 * j) + 1)) hx hb dL_law_2696 (nI_add _ _) ?_
  refine x_sld hx hb hX hbl (fun z9 => absurd hbl (Nat.not_lt.mpr z9)) hS (i := (5 * j) + 1) (by omega) (by omega) dL_law_2697 ?_
  refine lv_aload_n hx hb dL_law_2698 rfl (lv_at hl 2 rfl) ?_
  refine lv_iload hx hb dL_law_2699 (lv_at hl 1 rfl) ?_
  refine lv_iconst (v := nI 2) hx hb dL_law_2701 (by decide) ?_
  refine x_iadd (v := nI ((5 * j) + 2)) hx hb dL_law_2702 (nI_add _ _) ?_
  refine x_sld hx hb hX hbl (fun z9 => absurd hbl (Nat.not_lt.mpr z9)) hS (i := (5 * j) + 2) (by omega) (by omega) dL_law_2703 ?_
  refine k2_V hx hb hml hown hG cs_L_265 (hmd th) (by decide) (pzV (hK.sub (tys' := [(cI, .int), (cZ, .boolean)]) [0, 2] rfl) rfl hM.rc hM) rfl hl.1 rfl (Nat.le_of_ble_eq_true rfl) dL_law_2704 ⟨hcap.1, hcap.2⟩ rfl hS (fun q ⟨i, hi, e9⟩ => e9 ▸ hzd i hi) (fun H locs hM hz hk hS => ?_)
  have hW := hW.kept (fun i hi => hk _ (hW.lt hi) (had i hi))
  have hPo := oneK hPo (hk qo (va_lt hPo (k := 0) rfl) hdo)
  have hPd := oneK hPd (hk qd (va_lt hPd (k := 0) rfl) hdd)
  refine lv_istore (lv' := [(7, .int (bI (t.2.1))), (6, .int (nI (t.1))), (5, .int (nI (5 * j))), (0, .ref (b)), (1, .ref (ad 0)), (2, .ref (d 0)), (3, .ref (qo)), (4, .ref (qd))]) hx hb dL_law_2707 hl (by decide) rfl (fun ls hl => ?_)
  refine lv_aload_n hx hb dL_law_2709 rfl (lv_at hl 5 rfl) ?_
  refine k1_V hx hb hml hown hG cs_L_151 (c5_thrown l D cI cZ d t.2.2 (nI t.1)) (by decide) (pzV (hK.sub (tys' := [(cI, .int), (cZ, .boolean)]) [0, 2] rfl) rfl hM.rc hM) rfl hl.1 rfl (Nat.le_of_ble_eq_true rfl) dL_law_2710 ⟨hcap.1, hcap.2⟩ rfl ?_
  refine lv_iload hx hb dL_law_2713 (lv_at hl 1 rfl) ?_
  refine x_cmp_eq (tgt := 2720) hx hb dL_law_2715 (by decide) (by omega) (by omega) (fun zc1 => ?_) (fun zc1 => False.elim (by exact absurd rfl zc1))
  refine lv_iload hx hb dL_law_2720 (lv_at hl 1 rfl) ?_
  refine x_if_ne (tgt := 2744) hx hb dL_law_2722 (by decide) (by omega) (fun c0 => ?_) (fun c0 => ?_)
  · refine lv_goto (tgt := 2880) hx hb dL_law_2744 (by decide) ?_
    exact kk t.2.2 _ _ ls ⟨hiv, hW, ⟨_, hM⟩, ⟨_, hPo⟩, ⟨_, hPd⟩, hS⟩ (lv_sub hl [2, 3, 4, 5, 6, 7] rfl)
  · refine lv_aload_n hx hb dL_law_2725 rfl (lv_at hl 6 rfl) ?_
    refine lv_iconst (v := nI 0) hx hb dL_law_2726 (by decide) ?_
    refine x_lald0 hx hb (hf c0) hK hPo 3 rfl dL_law_2727 ?_
    refine lv_iload hx hb dL_law_2728 (lv_at hl 0 rfl) ?_
    refine x_ifb_eq (tgt := 2737) hx hb dL_law_2730 (by decide) (fun c1 => ?_) (fun c1 => ?_)
    · refine lv_lconst (v := lN (0)) hx hb dL_law_2737 (by decide) ?_
      refine W.lcmp hx hb dL_law_2738 ?_
      refine x_lifo_eq (tgt := 2744) hx hb dL_law_2739 (by decide) (fun zc2 => ?_) (fun zc2 => False.elim (by exact absurd (by rw [c1]; rfl) zc2))
      refine lv_goto (tgt := 2880) hx hb dL_law_2744 (by decide) ?_
      exact kk t.2.2 _ _ ls ⟨hiv, hW, ⟨_, hM⟩, ⟨_, hPo⟩, ⟨_, hPd⟩, hS⟩ (lv_sub hl [2, 3, 4, 5, 6, 7] rfl)
    · refine lv_lconst (v := lN (1)) hx hb dL_law_2733 (by decide) ?_
      refine lv_goto (tgt := 2738) hx hb dL_law_2734 (by decide) ?_
      refine W.lcmp hx hb dL_law_2738 ?_
      refine x_lifo_eq (tgt := 2744) hx hb dL_law_2739 (by decide) (fun zc3 => ?_) (fun zc3 => False.elim (by exact absurd (by rw [c1]; rfl) zc3))
      refine lv_goto (tgt := 2880) hx hb dL_law_2744 (by decide) ?_
      exact kk t.2.2 _ _ ls ⟨hiv, hW, ⟨_, hM⟩, ⟨_, hPo⟩, ⟨_, hPd⟩, hS⟩ (lv_sub hl [2, 3, 4, 5, 6, 7] rfl)
set_option maxHeartbeats 4000000 in
set_option maxRecDepth 100000 in
theorem lc_mean {p : Program} {l : Launch} {e : Env} {s : State} {m : MethodId} {below : List Frame} {meth : Method} {c : Code} {b L : Nat} {xs : Nat → Int32} {D : va_G} {cI cC cZ cL cD : ClassId} {ad d ta : Nat → Nat} {qo qd : Nat} {Q : State → Prop} (hst : l.stackTraces = false) (C : LwC p s m c b L xs D cI cC cZ cL cD ad d ta qo qd) {S : St} {N : Nat} {H : Heap} {locs : List Loc} {cells slots j : Nat} {ls : Array Slot} (I : LwI D cI cC cZ cL cD ad d qo qd s S N H locs) (hj : 5 * j + 5 ≤ L) (hN : N + 2000 < 2 ^ 31) (hcap : cells + 1 ≤ room_1.cells ∧ slots + 6 ≤ room_1.slots) (hl : lv_has ls 10 [(5, .int (nI (5 * j))), (0, .ref (b)), (1, .ref (ad 0)), (2, .ref (d 0)), (3, .ref (qo)), (4, .ref (qd))]) (kk : ∀ (S1 : St) (H1 : Heap) (locs1 : List Loc) (ls1 : Array Slot), LwI D cI cC cZ cL cD ad d qo qd s S1 (N + 2000) H1 locs1 → lv_has ls1 10 [(5, .int (nI (5 * j))), (0, .ref (b)), (1, .ref (ad 0)), (2, .ref (d 0)), (3, .ref (qo)), (4, .ref (qd))] → W p l e room_1 s m #[Value.ref b] below meth c H1 locs1 (cells + 1) (slots + 6) Q (F0 m 2880 ls1 [])) : W p l e room_1 s m #[Value.ref b] below meth c H locs cells slots Q (F0 m 2747 ls []) := by
  obtain ⟨hx, hb, hml, hown, hG, hK, hE, hT, hZ, hX2, hX, hbl, hL, hap, hapd, hza, hzd, hzo, hzd2, hda, hqo, hqd, hdo, hdd, hne, had⟩ := C
  obtain ⟨hI, hW, ⟨th, hM⟩, ⟨fo, hPo⟩, ⟨gd, hPd⟩, hS⟩ := I
  have hb : c.code = cL_law := hb
  have hwr := fun (f : Nat → UInt64) => wr_mean l hst D cI cC cD ad ta s.heap.size S N qd f (xs (5 * j + 1)) hI hN hap hqd
  have hmd := fun (th : Int32) => m_mean l D cI cZ d S th (xs (5 * j + 1)) hI hapd
  have hcd := cd_mean S (xs (5 * j + 1))
  have hiv : Inv (sp_mean S (xs (5 * j + 1))).2.2 := by rw [st_mean]; exact hI
  have hcm := mean_cmp hI (xs (5 * j + 1))
  generalize sp_mean S (xs (5 * j + 1)) = t at hwr hmd hcd hiv hcm
  have hc9 : t.1 ≤ 3 := by
    rcases hcd with h | h
    · omega
    · have h9 := h.1
      omega
  refine lv_aload_n hx hb dL_law_2747 rfl (lv_at hl 2 rfl) ?_
  refine lv_aload_n hx hb dL_law_2748 rfl (lv_at hl 1 rfl) ?_
  refine lv_iload hx hb dL_law_2749 (lv_at hl 0 rfl) ?_
  refine lv_iconst (v := nI 1) hx hb dL_law_2751 (by decide) ?_
  refine x_iadd (v := nI ((5 * j) + 1)) hx hb dL_law_2752 (nI_add _ _) ?_
  refine x_sld hx hb hX hbl (fun z9 => absurd hbl (Nat.not_lt.mpr z9)) hS (i := (5 * j) + 1) (by omega) (by omega) dL_law_2753 ?_
  refine lv_aload hx hb dL_law_2754 (lv_at hl 5 rfl) ?_
  refine k2_SW hx hb hml hown hG csw_L_266 (hwr gd) (by decide) (pzwS (hK.sub (tys' := [(cI, .int), (cC, .char), (cD, .double)]) [0, 1, 4] rfl) hE hT hZ hX2 hS.2.1 ⟨hW, hPd⟩) rfl hl.1 rfl (Nat.le_of_ble_eq_true rfl) dL_law_2756 hcap rfl hS (fun q z9 => z9.elim (fun ⟨i, hi, e9⟩ => e9 ▸ hza i hi) (fun e9 => e9 ▸ hzd2)) (fun H locs hB9 hz hk hS => ?_)
  obtain ⟨hW, f9, hPd, hf⟩ := hB9
  have hM := hM.kept (fun i hi => hk _ (hM.lt hi) (fun z9 => z9.elim (hda i hi) (fun e9 => hdd ⟨i, hi, e9.symm⟩)))
  have hPo := oneK hPo (hk qo (va_lt hPo (k := 0) rfl) (fun z9 => z9.elim hqo (fun e9 => hne e9)))
  refine lv_istore (lv' := [(6, .int (nI (t.1))), (5, .int (nI (5 * j))), (0, .ref (b)), (1, .ref (ad 0)), (2, .ref (d 0)), (3, .ref (qo)), (4, .ref (qd))]) hx hb dL_law_2759 hl (by decide) rfl (fun ls hl => ?_)
  refine lv_aload_n hx hb dL_law_2761 rfl (lv_at hl 4 rfl) ?_
  refine lv_aload_n hx hb dL_law_2762 rfl (lv_at hl 2 rfl) ?_
  refine lv_iload hx hb dL_law_2763 (lv_at hl 1 rfl) ?_
  refine lv_iconst (v := nI 1) hx hb dL_law_2765 (by decide) ?_
  refine x_iadd (v := nI ((5 * j) + 1)) hx hb dL_law_2766 (nI_add _ _) ?_
  refine x_sld hx hb hX hbl (fun z9 => absurd hbl (Nat.not_lt.mpr z9)) hS (i := (5 * j) + 1) (by omega) (by omega) dL_law_2767 ?_
  refine k2_V hx hb hml hown hG cs_L_269 (hmd th) (by decide) (pzV (hK.sub (tys' := [(cI, .int), (cZ, .boolean)]) [0, 2] rfl) rfl hM.rc hM) rfl hl.1 rfl (Nat.le_of_ble_eq_true rfl) dL_law_2768 ⟨hcap.1, hcap.2⟩ rfl hS (fun q ⟨i, hi, e9⟩ => e9 ▸ hzd i hi) (fun H locs hM hz hk hS => ?_)
  have hW := hW.kept (fun i hi => hk _ (hW.lt hi) (had i hi))
  have hPo := oneK hPo (hk qo (va_lt hPo (k := 0) rfl) hdo)
  have hPd := oneK hPd (hk qd (va_lt hPd (k := 0) rfl) hdd)
  refine lv_dstore (lv' := [(7, .double (t.2.1)), (6, .int (nI (t.1))), (5, .int (nI (5 * j))), (0, .ref (b)), (1, .ref (ad 0)), (2, .ref (d 0)), (3, .ref (qo)), (4, .ref (qd))]) hx hb dL_law_2771 hl (by decide) rfl (fun ls hl => ?_)
  refine lv_aload_n hx hb dL_law_2773 rfl (lv_at hl 5 rfl) ?_
  refine k1_V hx hb hml hown hG cs_L_151 (c5_thrown l D cI cZ d t.2.2 (nI t.1)) (by decide) (pzV (hK.sub (tys' := [(cI, .int), (cZ, .boolean)]) [0, 2] rfl) rfl hM.rc hM) rfl hl.1 rfl (Nat.le_of_ble_eq_true rfl) dL_law_2774 ⟨hcap.1, hcap.2⟩ rfl ?_
  refine lv_iload hx hb dL_law_2777 (lv_at hl 1 rfl) ?_
  refine x_cmp_eq (tgt := 2784) hx hb dL_law_2779 (by decide) (by omega) (by omega) (fun zc1 => ?_) (fun zc1 => False.elim (by exact absurd rfl zc1))
  refine lv_iload hx hb dL_law_2784 (lv_at hl 1 rfl) ?_
  refine x_if_ne (tgt := 2821) hx hb dL_law_2786 (by decide) (by omega) (fun c0 => ?_) (fun c0 => ?_)
  · refine lv_goto (tgt := 2880) hx hb dL_law_2821 (by decide) ?_
    exact kk t.2.2 _ _ ls ⟨hiv, hW, ⟨_, hM⟩, ⟨_, hPo⟩, ⟨_, hPd⟩, hS⟩ (lv_sub hl [2, 3, 4, 5, 6, 7] rfl)
  · refine lv_aload hx hb dL_law_2789 (lv_at hl 7 rfl) ?_
    refine lv_iconst (v := nI 0) hx hb dL_law_2791 (by decide) ?_
    refine x_dald0 hx hb (hf c0) hK hPd 4 rfl dL_law_2792 ?_
    refine lv_dload hx hb dL_law_2793 (lv_at hl 0 rfl) ?_
    refine x_dsame hx hb (hcm c0) (tgt := 2821) dL_law_2795 dL_law_2796 (by decide) ?_
    refine lv_goto (tgt := 2880) hx hb dL_law_2821 (by decide) ?_
    exact kk t.2.2 _ _ ls ⟨hiv, hW, ⟨_, hM⟩, ⟨_, hPo⟩, ⟨_, hPd⟩, hS⟩ (lv_sub hl [2, 3, 4, 5, 6, 7] rfl)
set_option maxHeartbeats 4000000 in
set_option maxRecDepth 100000 in
theorem lc_fullness {p : Program} {l : Launch} {e : Env} {s : State} {m : MethodId} {below : List Frame} {meth : Method} {c : Code} {b L : Nat} {xs : Nat → Int32} {D : va_G} {cI cC cZ cL cD : ClassId} {ad d ta : Nat → Nat} {qo qd : Nat} {Q : State → Prop} (hst : l.stackTraces = false) (C : LwC p s m c b L xs D cI cC cZ cL cD ad d ta qo qd) {S : St} {N : Nat} {H : Heap} {locs : List Loc} {cells slots j : Nat} {ls : Array Slot} (I : LwI D cI cC cZ cL cD ad d qo qd s S N H locs) (hj : 5 * j + 5 ≤ L) (hN : N + 2000 < 2 ^ 31) (hcap : cells + 1 ≤ room_1.cells ∧ slots + 6 ≤ room_1.slots) (hl : lv_has ls 10 [(5, .int (nI (5 * j))), (0, .ref (b)), (1, .ref (ad 0)), (2, .ref (d 0)), (3, .ref (qo)), (4, .ref (qd))]) (kk : ∀ (S1 : St) (H1 : Heap) (locs1 : List Loc) (ls1 : Array Slot), LwI D cI cC cZ cL cD ad d qo qd s S1 (N + 2000) H1 locs1 → lv_has ls1 10 [(5, .int (nI (5 * j))), (0, .ref (b)), (1, .ref (ad 0)), (2, .ref (d 0)), (3, .ref (qo)), (4, .ref (qd))] → W p l e room_1 s m #[Value.ref b] below meth c H1 locs1 (cells + 1) (slots + 6) Q (F0 m 2880 ls1 [])) : W p l e room_1 s m #[Value.ref b] below meth c H locs cells slots Q (F0 m 2824 ls []) := by
  obtain ⟨hx, hb, hml, hown, hG, hK, hE, hT, hZ, hX2, hX, hbl, hL, hap, hapd, hza, hzd, hzo, hzd2, hda, hqo, hqd, hdo, hdd, hne, had⟩ := C
  obtain ⟨hI, hW, ⟨th, hM⟩, ⟨fo, hPo⟩, ⟨gd, hPd⟩, hS⟩ := I
  have hb : c.code = cL_law := hb
  refine W.widen (k := cells + 1) (n := slots + 6) (by omega) (by omega) ?_
  have hfu := fu_ok (a := (S.1 2).length) (b := S.2.1) (by have h1 := hI.2.1; have h2 := hI.2.2.2.1; omega) (by have h1 := hI.2.2.1; omega) hI.2.2.2.1
  have hmd := fun (th : Int32) => m_fullness l D cI cZ d S th hI hapd
  have hok := ok_fullness l D cI cC ad S N hI hN hap rfl
  refine lv_aload_n hx hb dL_law_2824 rfl (lv_at hl 2 rfl) ?_
  refine k2_V hx hb hml hown hG cs_L_270 hok (by decide) (pzV (hK.sub (tys' := [(cI, .int), (cC, .char)]) [0, 1] rfl) rfl hW.rc hW) rfl hl.1 rfl (Nat.le_of_ble_eq_true rfl) dL_law_2825 ⟨hcap.1, hcap.2⟩ rfl hS (fun q ⟨i, hi, e9⟩ => e9 ▸ hza i hi) (fun H locs hW hz hk hS => ?_)
  have hM := hM.kept (fun i hi => hk _ (hM.lt hi) (hda i hi))
  have hPo := oneK hPo (hk qo (va_lt hPo (k := 0) rfl) hqo)
  have hPd := oneK hPd (hk qd (va_lt hPd (k := 0) rfl) hqd)
  refine lv_f2d hx hb dL_law_2828 hfu.2.1 ?_
  refine lv_dstore (lv' := [(6, .double (FP.f2d (fuV (S.1 2).length S.2.1))), (5, .int (nI (5 * j))), (0, .ref (b)), (1, .ref (ad 0)), (2, .ref (d 0)), (3, .ref (qo)), (4, .ref (qd))]) hx hb dL_law_2829 hl (by decide) rfl (fun ls hl => ?_)
  refine lv_aload_n hx hb dL_law_2831 rfl (lv_at hl 4 rfl) ?_
  refine k2_V hx hb hml hown hG cs_L_274 (hmd th) (by decide) (pzV (hK.sub (tys' := [(cI, .int), (cZ, .boolean)]) [0, 2] rfl) rfl hM.rc hM) rfl hl.1 rfl (Nat.le_of_ble_eq_true rfl) dL_law_2832 ⟨hcap.1, hcap.2⟩ rfl hS (fun q ⟨i, hi, e9⟩ => e9 ▸ hzd i hi) (fun H locs hM hz hk hS => ?_)
  have hW := hW.kept (fun i hi => hk _ (hW.lt hi) (had i hi))
  have hPo := oneK hPo (hk qo (va_lt hPo (k := 0) rfl) hdo)
  have hPd := oneK hPd (hk qd (va_lt hPd (k := 0) rfl) hdd)
  refine lv_f2d hx hb dL_law_2835 hfu.2.1 ?_
  refine lv_dstore (lv' := [(8, .double (FP.f2d (fuV (S.1 2).length S.2.1))), (6, .double (FP.f2d (fuV (S.1 2).length S.2.1))), (5, .int (nI (5 * j))), (0, .ref (b)), (1, .ref (ad 0)), (2, .ref (d 0)), (3, .ref (qo)), (4, .ref (qd))]) hx hb dL_law_2836 hl (by decide) rfl (fun ls hl => ?_)
  refine lv_dload hx hb dL_law_2838 (lv_at hl 1 rfl) ?_
  refine lv_dload hx hb dL_law_2840 (lv_at hl 0 rfl) ?_
  refine x_dsame hx hb hfu.2.2 (tgt := 2864) dL_law_2842 dL_law_2843 (by decide) ?_
  refine lv_goto (tgt := 2880) hx hb dL_law_2864 (by decide) ?_
  exact kk S _ _ ls ⟨hI, hW, ⟨_, hM⟩, ⟨_, hPo⟩, ⟨_, hPd⟩, hS⟩ (lv_sub hl [2, 3, 4, 5, 6, 7] rfl)
set_option maxHeartbeats 4000000 in
set_option maxRecDepth 100000 in
theorem lc_errors {p : Program} {l : Launch} {e : Env} {s : State} {m : MethodId} {below : List Frame} {meth : Method} {c : Code} {b L : Nat} {xs : Nat → Int32} {D : va_G} {cI cC cZ cL cD : ClassId} {ad d ta : Nat → Nat} {qo qd : Nat} {Q : State → Prop} (hst : l.stackTraces = false) (C : LwC p s m c b L xs D cI cC cZ cL cD ad d ta qo qd) {S : St} {N : Nat} {H : Heap} {locs : List Loc} {cells slots j : Nat} {ls : Array Slot} (I : LwI D cI cC cZ cL cD ad d qo qd s S N H locs) (hj : 5 * j + 5 ≤ L) (hN : N + 2000 < 2 ^ 31) (hcap : cells + 1 ≤ room_1.cells ∧ slots + 6 ≤ room_1.slots) (hl : lv_has ls 10 [(5, .int (nI (5 * j))), (0, .ref (b)), (1, .ref (ad 0)), (2, .ref (d 0)), (3, .ref (qo)), (4, .ref (qd))]) (kk : ∀ (S1 : St) (H1 : Heap) (locs1 : List Loc) (ls1 : Array Slot), LwI D cI cC cZ cL cD ad d qo qd s S1 (N + 2000) H1 locs1 → lv_has ls1 10 [(5, .int (nI (5 * j))), (0, .ref (b)), (1, .ref (ad 0)), (2, .ref (d 0)), (3, .ref (qo)), (4, .ref (qd))] → W p l e room_1 s m #[Value.ref b] below meth c H1 locs1 (cells + 1) (slots + 6) Q (F0 m 2880 ls1 [])) : W p l e room_1 s m #[Value.ref b] below meth c H locs cells slots Q (F0 m 2867 ls []) := by
  obtain ⟨hx, hb, hml, hown, hG, hK, hE, hT, hZ, hX2, hX, hbl, hL, hap, hapd, hza, hzd, hzo, hzd2, hda, hqo, hqd, hdo, hdd, hne, had⟩ := C
  obtain ⟨hI, hW, ⟨th, hM⟩, ⟨fo, hPo⟩, ⟨gd, hPd⟩, hS⟩ := I
  have hb : c.code = cL_law := hb
  refine W.widen (k := cells + 1) (n := slots + 6) (by omega) (by omega) ?_
  have hmd := fun (th : Int32) => m_errors l D cI cZ d S th hI hapd
  have hok := ok_errors l D cI cC ad S N hI hN hap rfl
  refine lv_aload_n hx hb dL_law_2867 rfl (lv_at hl 2 rfl) ?_
  refine k2_V hx hb hml hown hG cs_L_275 hok (by decide) (pzV (hK.sub (tys' := [(cI, .int), (cC, .char)]) [0, 1] rfl) rfl hW.rc hW) rfl hl.1 rfl (Nat.le_of_ble_eq_true rfl) dL_law_2868 ⟨hcap.1, hcap.2⟩ rfl hS (fun q ⟨i, hi, e9⟩ => e9 ▸ hza i hi) (fun H locs hW hz hk hS => ?_)
  have hM := hM.kept (fun i hi => hk _ (hM.lt hi) (hda i hi))
  have hPo := oneK hPo (hk qo (va_lt hPo (k := 0) rfl) hqo)
  have hPd := oneK hPd (hk qd (va_lt hPd (k := 0) rfl) hqd)
  refine lv_aload_n hx hb dL_law_2871 rfl (lv_at hl 3 rfl) ?_
  refine k2_V hx hb hml hown hG cs_L_278 (hmd th) (by decide) (pzV (hK.sub (tys' := [(cI, .int), (cZ, .boolean)]) [0, 2] rfl) rfl hM.rc hM) rfl hl.1 rfl (Nat.le_of_ble_eq_true rfl) dL_law_2872 ⟨hcap.1, hcap.2⟩ rfl hS (fun q ⟨i, hi, e9⟩ => e9 ▸ hzd i hi) (fun H locs hM hz hk hS => ?_)
  have hW := hW.kept (fun i hi => hk _ (hW.lt hi) (had i hi))
  have hPo := oneK hPo (hk qo (va_lt hPo (k := 0) rfl) hdo)
  have hPd := oneK hPd (hk qd (va_lt hPd (k := 0) rfl) hdd)
  refine lv_icmp_eq (tgt := 2880) hx hb dL_law_2875 (by decide) (fun zc1 => ?_) (fun zc1 => False.elim (by exact absurd rfl zc1))
  exact kk S _ _ ls ⟨hI, hW, ⟨_, hM⟩, ⟨_, hPo⟩, ⟨_, hPd⟩, hS⟩ (lv_sub hl [0, 1, 2, 3, 4, 5] rfl)
