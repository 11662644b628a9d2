/-! ===== what puts and their like keep ===== -/
theorem app_len (L : Bk) (x : Int32 × Int32) : (L ++ [x]).length = L.length + 1 := by simp
theorem ent_len (lg : Bool) (bd : Nat) (L : Bk) (x y : Int32) : (ent lg bd L x y).length ≤ L.length + 1 := by
  unfold ent
  split
  · rw [era_len (by rw [app_len]; omega), app_len]; omega
  · rw [app_len]; omega
theorem ent_len_b {bd : Nat} {L : Bk} (x y : Int32) (h : L.length ≤ bd) : (ent true bd L x y).length ≤ bd := by
  unfold ent
  split
  · rw [era_len (by rw [app_len]; omega), app_len]; omega
  · rename_i h2
    rw [app_len]
    have : ¬ bd < L.length + 1 := fun z => h2 ⟨rfl, z⟩
    omega
theorem ent_ND {lg : Bool} {bd : Nat} {L : Bk} {x y : Int32} (h : ND L) (hno : fx L x = none) : ND (ent lg bd L x y) := by
  unfold ent
  split
  · exact ND_era (ND_app h hno) (by rw [app_len]; omega)
  · exact ND_app h hno
theorem stq_len (lg : Bool) (bd : Nat) (L : Bk) (x y : Int32) : (stq lg bd L x y).length ≤ L.length + 1 := by
  cases h : fx L x with
  | none => rw [stq_no h]; exact ent_len _ _ _ _ _
  | some i => rw [stq_at h, sv_len]; omega
theorem stq_len_b {bd : Nat} {L : Bk} (x y : Int32) (hl : L.length ≤ bd) : (stq true bd L x y).length ≤ bd := by
  cases h : fx L x with
  | none => rw [stq_no h]; exact ent_len_b x y hl
  | some i => rw [stq_at h, sv_len]; exact hl
theorem stq_ND {lg : Bool} {bd : Nat} {L : Bk} {x y : Int32} (h : ND L) : ND (stq lg bd L x y) := by
  cases hf : fx L x with
  | none => rw [stq_no hf]; exact ent_ND h hf
  | some i => rw [stq_at hf]; exact ND_sv h i y
theorem fiA_len (lg : Bool) (bd : Nat) (L : Bk) (f s : Int32) : ∀ n, (fiA lg bd L f s n).1.length ≤ L.length + n
  | 0 => Nat.le_refl _
  | n + 1 => by
    have h1 := fiA_len lg bd L f s n
    have h2 := stq_len lg bd (fiA lg bd L f s n).1 (fiA lg bd L f s n).2 0
    show (stq lg bd (fiA lg bd L f s n).1 (fiA lg bd L f s n).2 0).length ≤ _
    omega
theorem fiA_len_b {bd : Nat} {L : Bk} (f s : Int32) (hl : L.length ≤ bd) : ∀ n, (fiA true bd L f s n).1.length ≤ bd
  | 0 => hl
  | n + 1 => stq_len_b _ _ (fiA_len_b f s hl n)
theorem fiA_ND {lg : Bool} {bd : Nat} {L : Bk} (f s : Int32) (h : ND L) : ∀ n, ND (fiA lg bd L f s n).1
  | 0 => h
  | n + 1 => stq_ND (fiA_ND f s h n)
theorem stF_ND {lg : Bool} {bd : Nat} {L : Bk} (M : Bk) (h : ND L) : ∀ n, ND (stF lg bd L M n)
  | 0 => h
  | n + 1 => stq_ND (stF_ND M h n)
theorem stF_len_b {bd : Nat} {L : Bk} (M : Bk) (hl : L.length ≤ bd) : ∀ n, (stF true bd L M n).length ≤ bd
  | 0 => hl
  | n + 1 => stq_len_b _ _ (stF_len_b M hl n)
theorem fx_app_no {L : Bk} {x k y : Int32} (h : fx (L ++ [(x, y)]) k = none) : fx L k = none ∧ x ≠ k := by
  have h2 := fx_none h
  refine ⟨fx_no (fun j hj => by have := h2 j (by rw [app_len]; omega); rw [kf_app hj] at this; exact this), ?_⟩
  have := h2 L.length (by rw [app_len]; omega)
  rw [kf_end] at this
  exact this
theorem fx_app_none {L : Bk} {x k y : Int32} (h : fx L k = none) (h2 : x ≠ k) : fx (L ++ [(x, y)]) k = none := fx_no (fun j hj => by
  rw [app_len] at hj
  rcases Nat.lt_or_ge j L.length with q | q
  · rw [kf_app q]; exact fx_none h j q
  · rw [show j = L.length by omega, kf_end]; exact h2)
/-- a plain book into which n pairs of M are put: what is in it -/
theorem stF_in {bd : Nat} {L M : Bk} (hM : ND M) : ∀ n, n ≤ M.length → (stF false bd L M n).length = L.length + cms M L n ∧ ∀ k, fx (stF false bd L M n) k = none ↔ (fx L k = none ∧ ∀ j, j < n → kf M j ≠ k)
  | 0, _ => ⟨rfl, fun k => ⟨fun h => ⟨h, fun j hj => absurd hj (Nat.not_lt_zero j)⟩, fun h => h.1⟩⟩
  | n + 1, hn => by
    obtain ⟨h1, h2⟩ := stF_in (bd := bd) (L := L) hM n (by omega)
    have hk : fx (stF false bd L M n) (kf M n) = none ↔ fx L (kf M n) = none := by
      rw [h2]
      exact ⟨fun h => h.1, fun h => ⟨h, fun j hj => hM j n hj (by omega)⟩⟩
    show (stq false bd (stF false bd L M n) (kf M n) (vf M n)).length = _ ∧ ∀ k, fx (stq false bd (stF false bd L M n) (kf M n) (vf M n)) k = none ↔ _
    cases hf : fx (stF false bd L M n) (kf M n) with
    | none =>
      rw [stq_no hf, ent_plain, app_len, h1, cms, if_pos (hk.mp hf)]
      refine ⟨by omega, fun k => ⟨fun h => ?_, fun h => ?_⟩⟩
      · obtain ⟨a, b⟩ := fx_app_no h
        obtain ⟨c, d⟩ := (h2 k).mp a
        refine ⟨c, fun j hj => ?_⟩
        rcases Nat.lt_or_ge j n with q | q
        · exact d j q
        · rw [show j = n by omega]; exact b
      · exact fx_app_none ((h2 k).mpr ⟨h.1, fun j hj => h.2 j (by omega)⟩) (h.2 n (by omega))
    | some i =>
      rw [stq_at hf, sv_len, h1, cms, if_neg (fun z => by rw [hk.mpr z] at hf; cases hf)]
      refine ⟨by omega, fun k => ?_⟩
      rw [fx_sv, h2]
      refine ⟨fun h => ⟨h.1, fun j hj => ?_⟩, fun h => ⟨h.1, fun j hj => h.2 j (by omega)⟩⟩
      rcases Nat.lt_or_ge j n with q | q
      · exact h.2 j q
      · intro e
        rw [show j = n by omega] at e
        have := (h2 k).mpr h
        rw [← e, hf] at this
        cases this
theorem cms_mono (L M : Bk) {m n : Nat} (h : m ≤ n) : cms L M m ≤ cms L M n := by
  induction n with
  | zero => rw [show m = 0 by omega]; exact Nat.le_refl _
  | succ n ih =>
    rcases Nat.lt_or_ge m (n + 1) with q | q
    · have := ih (by omega)
      rw [cms]
      omega
    · rw [show m = n + 1 by omega]; exact Nat.le_refl _
theorem cms_step {L M : Bk} {n : Nat} (h : fx M (kf L n) = none) : cms L M (n + 1) = cms L M n + 1 := by rw [cms, if_pos h]
/-- .. so there is room for each -/
theorem stF_room {bd : Nat} {L M : Bk} (hM : ND M) (hr : L.length + cms M L M.length ≤ 200) {n : Nat} (hn : n < M.length) (hf : fx (stF false bd L M n) (kf M n) = none) : (stF false bd L M n).length < 200 := by
  obtain ⟨h1, h2⟩ := stF_in (bd := bd) (L := L) hM n (by omega)
  have h3 := cms_step (M := L) (((h2 _).mp hf).1)
  have h4 := cms_mono M L (show n + 1 ≤ M.length by omega)
  omega
theorem adA_len (L : Bk) (x : Int32) : ∀ n, (adA L x n).length = L.length
  | 0 => rfl
  | n + 1 => by
    show (sv (adA L x n) n _).length = _
    rw [sv_len, adA_len L x n]
theorem adA_kf (L : Bk) (x : Int32) (j : Nat) : ∀ n, kf (adA L x n) j = kf L j
  | 0 => rfl
  | n + 1 => by
    show kf (sv (adA L x n) n _) j = _
    rw [kf_sv, adA_kf L x j n]
theorem adA_vf (L : Bk) (x : Int32) (j : Nat) : ∀ n, n ≤ L.length → vf (adA L x n) j = if j < n then vf L j + x else vf L j
  | 0, _ => by rw [if_neg (Nat.not_lt_zero j)]; rfl
  | n + 1, hn => by
    show vf (sv (adA L x n) n _) j = _
    rw [vf_sv _ (by rw [adA_len]; omega), adA_vf L x j n (by omega)]
    by_cases e : j = n
    · subst e; rw [if_pos rfl, if_pos (by omega)]
    · rw [if_neg e]
      by_cases q : j < n
      · rw [if_pos q, if_pos (by omega)]
      · rw [if_neg q, if_neg (by omega)]
theorem adA_ND {L : Bk} (h : ND L) (x : Int32) : ∀ n, ND (adA L x n)
  | 0 => h
  | n + 1 => ND_sv (adA_ND h x n) _ _
theorem wrA_len (L : Bk) : ∀ n, (wrA L n).length ≤ 1 + 25 * n
  | 0 => Nat.le_refl _
  | n + 1 => by
    have h := wrA_len L n
    have h1 := decI_len (kf L n)
    have h2 := decI_len (vf L n)
    show (wrA L n ++ (if n = 0 then [] else [nI 44, nI 32]) ++ decI (kf L n) ++ [nI 61] ++ decI (vf L n)).length ≤ _
    simp only [List.length_append]
    split <;> simp <;> omega
theorem wrA_len0 (L : Bk) : ∀ n, 1 ≤ n → (wrA L n).length ≤ 25 * n - 1
  | 0, h => absurd h (by omega)
  | 1, _ => by
    have h1 := decI_len (kf L 0)
    have h2 := decI_len (vf L 0)
    show ([nI 123] ++ [] ++ decI (kf L 0) ++ [nI 61] ++ decI (vf L 0)).length ≤ _
    simp only [List.length_append, List.length_cons, List.length_nil]
    omega
  | n + 2, _ => by
    have h := wrA_len0 L (n + 1) (by omega)
    have h1 := decI_len (kf L (n + 1))
    have h2 := decI_len (vf L (n + 1))
    show (wrA L (n + 1) ++ (if n + 1 = 0 then [] else [nI 44, nI 32]) ++ decI (kf L (n + 1)) ++ [nI 61] ++ decI (vf L (n + 1))).length ≤ _
    rw [if_neg (by omega)]
    simp only [List.length_append, List.length_cons, List.length_nil]
    omega
theorem wrL_len {L : Bk} (h : L.length ≤ 200) : (wrL L).length ≤ 5000 := by
  unfold wrL
  rw [List.length_append]
  rcases Nat.eq_zero_or_pos L.length with q | q
  · rw [q]; exact Nat.le_of_ble_eq_true rfl
  · have := wrA_len0 L L.length q
    simp
    omega
