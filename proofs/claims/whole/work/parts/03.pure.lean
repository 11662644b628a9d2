/-! ===== books as lists of pairs ===== -/
abbrev Bk : Type := List (Int32 × Int32)
def kf (L : Bk) (j : Nat) : Int32 := (L[j]?.getD (0, 0)).1
def vf (L : Bk) (j : Nat) : Int32 := (L[j]?.getD (0, 0)).2
def fx : Bk → Int32 → Option Nat
  | [], _ => none
  | q :: L, key => if q.1 = key then some 0 else (fx L key).map (· + 1)
def oI (o : Option Nat) : Int32 := match o with | none => -1 | some i => nI i
theorem kf_z (q : Int32 × Int32) (L : Bk) : kf (q :: L) 0 = q.1 := rfl
theorem kf_s (q : Int32 × Int32) (L : Bk) (j : Nat) : kf (q :: L) (j + 1) = kf L j := by simp [kf]
theorem fx_some : ∀ {L : Bk} {key : Int32} {i : Nat}, fx L key = some i → i < L.length ∧ kf L i = key ∧ ∀ j, j < i → kf L j ≠ key
  | [], _, _, h => by simp [fx] at h
  | q :: L, key, i, h => by
    rw [fx] at h
    by_cases hq : q.1 = key
    · rw [if_pos hq] at h
      cases h
      exact ⟨by simp, hq, fun j hj => absurd hj (Nat.not_lt_zero j)⟩
    · rw [if_neg hq] at h
      cases hL : fx L key with
      | none => rw [hL] at h; cases h
      | some i' =>
        rw [hL] at h
        cases h
        obtain ⟨h1, h2, h3⟩ := fx_some hL
        refine ⟨by simp; omega, by rw [kf_s]; exact h2, fun j hj => ?_⟩
        cases j with
        | zero => exact hq
        | succ j =>
          have hj : j + 1 < i' + 1 := hj
          rw [kf_s]; exact h3 j (by omega)
theorem fx_none : ∀ {L : Bk} {key : Int32}, fx L key = none → ∀ j, j < L.length → kf L j ≠ key
  | [], _, _, j, hj => absurd hj (Nat.not_lt_zero j)
  | q :: L, key, h, j, hj => by
    rw [fx] at h
    by_cases hq : q.1 = key
    · rw [if_pos hq] at h
      cases h
    · rw [if_neg hq] at h
      cases hL : fx L key with
      | some i' => rw [hL] at h; cases h
      | none =>
        cases j with
        | zero => exact hq
        | succ j => rw [kf_s]; exact fx_none hL j (by simpa using hj)
theorem fx_is {L : Bk} {key : Int32} {i : Nat} (h1 : i < L.length) (h2 : kf L i = key) (h3 : ∀ j, j < i → kf L j ≠ key) : fx L key = some i := by
  cases h : fx L key with
  | none => exact absurd h2 (fx_none h i h1)
  | some i' =>
    obtain ⟨g1, g2, g3⟩ := fx_some h
    rcases Nat.lt_trichotomy i i' with q | q | q
    · exact absurd h2 (g3 i q)
    · rw [q]
    · exact absurd g2 (h3 i' q)
theorem fx_no {L : Bk} {key : Int32} (h : ∀ j, j < L.length → kf L j ≠ key) : fx L key = none := by
  cases hL : fx L key with
  | none => rfl
  | some i => exact absurd (fx_some hL).2.1 (h i (fx_some hL).1)
/-- no key twice -/
def ND (L : Bk) : Prop := ∀ i j, i < j → j < L.length → kf L i ≠ kf L j
theorem ND_fx {L : Bk} (h : ND L) {i : Nat} (hi : i < L.length) : fx L (kf L i) = some i := fx_is hi rfl (fun j hj => h j i hj hi)
theorem kf_app {L : Bk} {x : Int32 × Int32} {j : Nat} (h : j < L.length) : kf (L ++ [x]) j = kf L j := by simp [kf, List.getElem?_append, h]
theorem vf_app {L : Bk} {x : Int32 × Int32} {j : Nat} (h : j < L.length) : vf (L ++ [x]) j = vf L j := by simp [vf, List.getElem?_append, h]
theorem kf_end (L : Bk) (x : Int32 × Int32) : kf (L ++ [x]) L.length = x.1 := by simp [kf]
theorem vf_end (L : Bk) (x : Int32 × Int32) : vf (L ++ [x]) L.length = x.2 := by simp [vf]
theorem kf_era (L : Bk) (i j : Nat) : kf (L.eraseIdx i) j = if j < i then kf L j else kf L (j + 1) := by
  unfold kf
  rw [List.getElem?_eraseIdx]
  split <;> rfl
theorem vf_era (L : Bk) (i j : Nat) : vf (L.eraseIdx i) j = if j < i then vf L j else vf L (j + 1) := by
  unfold vf
  rw [List.getElem?_eraseIdx]
  split <;> rfl
/-- another value at place i -/
def sv (L : Bk) (i : Nat) (y : Int32) : Bk := L.set i (kf L i, y)
theorem sv_len (L : Bk) (i : Nat) (y : Int32) : (sv L i y).length = L.length := by simp [sv]
theorem kf_sv (L : Bk) (i : Nat) (y : Int32) (j : Nat) : kf (sv L i y) j = kf L j := by
  unfold sv
  show ((L.set i (kf L i, y))[j]?.getD (0, 0)).1 = _
  rw [List.getElem?_set]
  by_cases h : i = j
  · subst h
    by_cases h2 : i < L.length
    · simp [h2]
    · simp [h2, kf]
  · rw [if_neg h]; rfl
theorem vf_sv (L : Bk) {i : Nat} (hi : i < L.length) (y : Int32) (j : Nat) : vf (sv L i y) j = if j = i then y else vf L j := by
  unfold sv
  show ((L.set i (kf L i, y))[j]?.getD (0, 0)).2 = _
  rw [List.getElem?_set]
  by_cases h : i = j
  · subst h
    simp [hi]
  · rw [if_neg h, if_neg (fun z => h z.symm)]; rfl
theorem ND_sv {L : Bk} (h : ND L) (i : Nat) (y : Int32) : ND (sv L i y) := fun a b hab hb => by
  rw [kf_sv, kf_sv]
  exact h a b hab (by rw [sv_len] at hb; exact hb)
theorem fx_sv (L : Bk) (i : Nat) (y : Int32) (key : Int32) : fx (sv L i y) key = fx L key := by
  cases h : fx L key with
  | none => exact fx_no (fun j hj => by rw [kf_sv]; exact fx_none h j (by rw [sv_len] at hj; exact hj))
  | some k =>
    obtain ⟨h1, h2, h3⟩ := fx_some h
    exact fx_is (by rw [sv_len]; exact h1) (by rw [kf_sv]; exact h2) (fun j hj => by rw [kf_sv]; exact h3 j hj)
theorem ND_app {L : Bk} (h : ND L) {x : Int32 × Int32} (hx : fx L x.1 = none) : ND (L ++ [x]) := fun i j hij hj => by
  have hj' : j < L.length + 1 := by simpa using hj
  rw [kf_app (by omega)]
  rcases Nat.lt_or_ge j L.length with q | q
  · rw [kf_app q]; exact h i j hij q
  · have e : j = L.length := by omega
    rw [e, kf_end]
    exact fx_none hx i (by omega)
theorem era_len {L : Bk} {i : Nat} (hi : i < L.length) : (L.eraseIdx i).length = L.length - 1 := by rw [List.length_eraseIdx]; simp [hi]
theorem ND_era {L : Bk} (h : ND L) {i : Nat} (hi : i < L.length) : ND (L.eraseIdx i) := fun a b hab hb => by
  rw [era_len hi] at hb
  rw [kf_era, kf_era]
  by_cases h1 : a < i <;> by_cases h2 : b < i
  · rw [if_pos h1, if_pos h2]; exact h a b hab (by omega)
  · rw [if_pos h1, if_neg h2]; exact h a (b + 1) (by omega) (by omega)
  · omega
  · rw [if_neg h1, if_neg h2]; exact h (a + 1) (b + 1) (by omega) (by omega)
theorem ND_nil : ND [] := fun _ j _ h => absurd h (Nat.not_lt_zero j)
/-- two lists of the same keys and values -/
theorem bk_ext {L M : Bk} (h : L.length = M.length) (hk : ∀ j, j < L.length → kf L j = kf M j ∧ vf L j = vf M j) : L = M := by
  apply List.ext_getElem? 
  intro j
  by_cases hj : j < L.length
  · have h1 : L[j]? = some L[j] := List.getElem?_eq_getElem hj
    have h2 : M[j]? = some (M[j]'(by omega)) := List.getElem?_eq_getElem (by omega)
    have := hk j hj
    unfold kf vf at this
    rw [h1, h2] at this
    rw [h1, h2]
    exact congrArg some (Prod.ext this.1 this.2)
  · rw [List.getElem?_eq_none (by omega), List.getElem?_eq_none (by omega)]
/-- rows of an array of 200 that hold a book -/
def Rp (L : Bk) (k v : Nat → Int32) : Prop := L.length ≤ 200 ∧ ∀ j, j < L.length → k j = kf L j ∧ v j = vf L j
theorem upd_at (f : Nat → Int32) (i : Nat) (x : Int32) (j : Nat) : upd f i x j = if j = i then x else f j := by
  by_cases h : j = i
  · subst h; rw [pk_us, if_pos rfl]
  · rw [pk_un h, if_neg h]
theorem Rp.push {L : Bk} {k v : Nat → Int32} (h : Rp L k v) (hl : L.length < 200) (x y : Int32) : Rp (L ++ [(x, y)]) (upd k L.length x) (upd v L.length y) := by
  refine ⟨by simp; omega, fun j hj => ?_⟩
  have hj' : j < L.length + 1 := by simpa using hj
  rw [upd_at, upd_at]
  by_cases e : j = L.length
  · subst e
    rw [if_pos rfl, if_pos rfl, kf_end, vf_end]
    exact ⟨rfl, rfl⟩
  · rw [if_neg e, if_neg e, kf_app (by omega), vf_app (by omega)]
    exact h.2 j (by omega)
theorem Rp.sv {L : Bk} {k v : Nat → Int32} (h : Rp L k v) {i : Nat} (hi : i < L.length) (y : Int32) : Rp (sv L i y) k (upd v i y) := by
  refine ⟨by rw [sv_len]; exact h.1, fun j hj => ?_⟩
  rw [sv_len] at hj
  rw [kf_sv, vf_sv L hi, upd_at]
  exact ⟨(h.2 j hj).1, by split; exact rfl; exact (h.2 j hj).2⟩
theorem Rp.era {L : Bk} {k v k' v' : Nat → Int32} (h : Rp L k v) {i : Nat} (hi : i < L.length) (h1 : ∀ j, j < i → k' j = k j ∧ v' j = v j) (h2 : ∀ j, i ≤ j → j + 1 < L.length → k' j = k (j + 1) ∧ v' j = v (j + 1)) : Rp (L.eraseIdx i) k' v' := by
  refine ⟨by rw [era_len hi]; have := h.1; omega, fun j hj => ?_⟩
  rw [era_len hi] at hj
  rw [kf_era, vf_era]
  by_cases q : j < i
  · rw [if_pos q, if_pos q, (h1 j q).1, (h1 j q).2]
    exact h.2 j (by omega)
  · rw [if_neg q, if_neg q, (h2 j (by omega) (by omega)).1, (h2 j (by omega) (by omega)).2]
    exact h.2 (j + 1) (by omega)
theorem Rp.nil {k v : Nat → Int32} : Rp [] k v := ⟨by simp, fun j hj => absurd hj (Nat.not_lt_zero j)⟩
/-- the place is taken by the last one -/
def swr (R : Bk) (i : Nat) : Bk := (R.set i (R[R.length - 1]?.getD (0, 0))).take (R.length - 1)
theorem swr_len (R : Bk) (i : Nat) : (swr R i).length = R.length - 1 := by simp [swr]
theorem set_perm : ∀ (R : Bk) (i : Nat) (z : Int32 × Int32), i < R.length → (R.set i z).Perm (z :: R.eraseIdx i)
  | [], i, z, h => absurd h (Nat.not_lt_zero i)
  | a :: R, 0, z, h => by simp
  | a :: R, i + 1, z, h => by
    have h1 := set_perm R i z (by simpa using h)
    show (a :: R.set i z).Perm (z :: a :: R.eraseIdx i)
    exact (h1.cons a).trans (List.Perm.swap z a _)
theorem swr_perm (R : Bk) {i : Nat} (hi : i < R.length) : (swr R i).Perm (R.eraseIdx i) := by
  obtain ⟨R0, z, rfl⟩ : ∃ R0 z, R = R0 ++ [z] := by
    rcases List.eq_nil_or_concat R with h | ⟨R0, z, h⟩
    · subst h; exact absurd hi (Nat.not_lt_zero i)
    · exact ⟨R0, z, by rw [h, List.concat_eq_append]⟩
  have hl : (R0 ++ [z]).length = R0.length + 1 := by simp
  unfold swr
  rw [hl, Nat.add_sub_cancel]
  have e : (R0 ++ [z])[R0.length]?.getD (0, 0) = z := by simp
  rw [e]
  by_cases q : i < R0.length
  · rw [List.set_append_left _ _ q, List.take_append_of_le_length (by simp), List.eraseIdx_append_of_lt_length q]
    rw [List.take_of_length_le (by simp)]
    exact (set_perm R0 i z q).trans (List.perm_append_singleton z _).symm
  · have e2 : i = R0.length := by rw [hl] at hi; omega
    subst e2
    rw [List.set_append_right _ _ (Nat.le_refl _), List.take_append_of_le_length (Nat.le_refl _), List.eraseIdx_append_of_length_le (Nat.le_refl _)]
    simp
theorem Rp.swp {R : Bk} {k v : Nat → Int32} (h : Rp R k v) {i : Nat} (hi : i < R.length) : Rp (swr R i) (upd k i (k (R.length - 1))) (upd v i (v (R.length - 1))) := by
  refine ⟨by rw [swr_len]; have := h.1; omega, fun j hj => ?_⟩
  rw [swr_len] at hj
  have e : (swr R i)[j]?.getD (0, 0) = if j = i then R[R.length - 1]?.getD (0, 0) else R[j]?.getD (0, 0) := by
    unfold swr
    rw [List.getElem?_take, if_pos hj, List.getElem?_set]
    by_cases q : i = j
    · subst q; simp [hi]
    · rw [if_neg q, if_neg (fun z => q z.symm)]
  rw [upd_at, upd_at]
  unfold kf vf
  rw [e]
  split
  · exact h.2 (R.length - 1) (by omega)
  · exact h.2 j (by omega)
/-- numbers by their Int -/
theorem i_lt (a b : Int32) : a < b ↔ a.toInt < b.toInt := Int32.lt_iff_toInt_lt
theorem i_le (a b : Int32) : a ≤ b ↔ a.toInt ≤ b.toInt := Int32.le_iff_toInt_le
/-- the record of arrivals: T is the book's keys with their times, in the book's order; R the same in any order -/
def Tq (L R : Bk) (now N : Nat) : Prop :=
  now ≤ N ∧ ∃ T : Bk, T.map Prod.fst = L.map Prod.fst ∧ T.Pairwise (fun a b => a.2 < b.2) ∧ (∀ t ∈ T, 0 ≤ t.2 ∧ t.2 < nI now) ∧ R.Perm T
theorem Tq.len {L R : Bk} {now N : Nat} (h : Tq L R now N) : R.length = L.length := by
  obtain ⟨-, T, h1, -, -, h4⟩ := h
  have e := congrArg List.length h1
  simp only [List.length_map] at e
  rw [h4.length_eq, e]
theorem Tq.mono {L R : Bk} {now N M : Nat} (h : Tq L R now N) (hM : N ≤ M) : Tq L R now M := ⟨Nat.le_trans h.1 hM, h.2⟩
theorem Tq.nil {now N : Nat} (h : now ≤ N) : Tq [] [] now N := ⟨h, [], rfl, List.Pairwise.nil, fun t ht => absurd ht List.not_mem_nil, List.Perm.refl _⟩
theorem Tq.keys {L M R : Bk} {now N : Nat} (h : Tq L R now N) (e : M.map Prod.fst = L.map Prod.fst) : Tq M R now N := by
  obtain ⟨h0, T, h1, h2⟩ := h
  exact ⟨h0, T, h1.trans e.symm, h2⟩
theorem sv_keys (L : Bk) (i : Nat) (y : Int32) : (sv L i y).map Prod.fst = L.map Prod.fst := by
  apply List.ext_getElem?
  intro j
  rw [List.getElem?_map, List.getElem?_map]
  unfold sv
  rw [List.getElem?_set]
  by_cases h : i = j
  · subst h
    by_cases h2 : i < L.length
    · rw [if_pos rfl, if_pos h2, List.getElem?_eq_getElem h2]
      simp [kf, h2]
    · rw [if_pos rfl, if_neg h2, List.getElem?_eq_none (by omega)]
  · rw [if_neg h]
theorem Tq.push {L R : Bk} {now N : Nat} (h : Tq L R now N) (hn : now + 1 < 2 ^ 31) (k v : Int32) : Tq (L ++ [(k, v)]) (R ++ [(k, nI now)]) (now + 1) (N + 1) := by
  obtain ⟨h0, T, h1, h2, h3, h4⟩ := h
  have hlt : nI now < nI (now + 1) := nI_lt (Nat.lt_succ_self _) hn
  refine ⟨by omega, T ++ [(k, nI now)], by simp [h1], ?_, fun t ht => ?_, h4.append_right _⟩
  · rw [List.pairwise_append]
    exact ⟨h2, List.pairwise_singleton _ _, fun a ha b hb => by rw [List.mem_singleton.mp hb]; exact (h3 a ha).2⟩
  · rcases List.mem_append.mp ht with q | q
    · obtain ⟨q1, q2⟩ := h3 t q
      refine ⟨q1, ?_⟩
      rw [i_lt] at q2 hlt ⊢
      omega
    · rw [List.mem_singleton.mp q]
      exact ⟨nI_pos' (by omega), hlt⟩
theorem map_fst_at {T L : Bk} (h : T.map Prod.fst = L.map Prod.fst) (j : Nat) : kf T j = kf L j := by
  have e : (T.map Prod.fst)[j]? = (L.map Prod.fst)[j]? := by rw [h]
  rw [List.getElem?_map, List.getElem?_map] at e
  unfold kf
  cases hT : T[j]? <;> cases hL : L[j]? <;> rw [hT, hL] at e <;> simp_all
theorem kv_mem {T : Bk} {j : Nat} (h : j < T.length) : (kf T j, vf T j) ∈ T := by
  have e : T[j]? = some (T[j]) := List.getElem?_eq_getElem h
  have : (kf T j, vf T j) = T[j] := by unfold kf vf; rw [e]; rfl
  rw [this]
  exact List.getElem_mem h
theorem mem_kv {T : Bk} {q : Int32 × Int32} (h : q ∈ T) : ∃ j, j < T.length ∧ kf T j = q.1 ∧ vf T j = q.2 := by
  obtain ⟨j, hj, e⟩ := List.getElem_of_mem h
  refine ⟨j, hj, ?_, ?_⟩
  · unfold kf; rw [List.getElem?_eq_getElem hj, e]; rfl
  · unfold vf; rw [List.getElem?_eq_getElem hj, e]; rfl
theorem ND_nodup {L : Bk} (h : ND L) : (L.map Prod.fst).Nodup := by
  rw [List.nodup_iff_pairwise_ne, List.pairwise_iff_getElem]
  intro i j hi hj hij
  have hi' : i < L.length := by simpa using hi
  have hj' : j < L.length := by simpa using hj
  have := h i j hij hj'
  unfold kf at this
  rw [List.getElem?_eq_getElem hi', List.getElem?_eq_getElem hj'] at this
  simpa using this
theorem nodup_ND {L : Bk} (h : (L.map Prod.fst).Nodup) : ND L := by
  intro i j hij hj
  rw [List.nodup_iff_pairwise_ne, List.pairwise_iff_getElem] at h
  have := h i j (by simp; omega) (by simpa using hj) hij
  unfold kf
  rw [List.getElem?_eq_getElem (show i < L.length by omega), List.getElem?_eq_getElem hj]
  simpa using this
/-- a key of the book is found in the record, at its time -/
theorem Tq.found {L R : Bk} {now N : Nat} (h : Tq L R now N) (hL : ND L) : ND R ∧ ∃ τ : Nat → Int32, (∀ j, j < L.length → ∃ i, fx R (kf L j) = some i ∧ vf R i = τ j) ∧ (∀ i j, i < j → j < L.length → τ i < τ j) ∧ ∀ j, j < L.length → 0 ≤ τ j := by
  obtain ⟨h0, T, h1, h2, h3, h4⟩ := h
  have hl : T.length = L.length := by have e := congrArg List.length h1; simpa using e
  have hR : ND R := nodup_ND (((h4.map Prod.fst).nodup_iff).mpr (by rw [h1]; exact ND_nodup hL))
  refine ⟨hR, fun j => vf T j, fun j hj => ?_, fun i j hij hj => ?_, fun j hj => ?_⟩
  · have hm := h4.mem_iff.mpr (kv_mem (T := T) (j := j) (by omega))
    obtain ⟨i, hi, e1, e2⟩ := mem_kv hm
    refine ⟨i, ?_, e2⟩
    rw [← map_fst_at h1 j]
    rw [show kf T j = kf R i from e1.symm]
    exact ND_fx hR hi
  · have := (List.pairwise_iff_getElem.mp h2) i j (by omega) (by omega) hij
    show vf T i < vf T j
    unfold vf
    rw [List.getElem?_eq_getElem (show i < T.length by omega), List.getElem?_eq_getElem (show j < T.length by omega)]
    exact this
  · exact (h3 _ (kv_mem (T := T) (j := j) (by omega))).1
theorem fst_era (L : Bk) (i : Nat) : (L.eraseIdx i).map Prod.fst = (L.map Prod.fst).eraseIdx i := by
  apply List.ext_getElem?
  intro j
  rw [List.getElem?_map, List.getElem?_eraseIdx, List.getElem?_eraseIdx]
  split <;> rw [List.getElem?_map]
theorem pair_era {T : Bk} {P : Int32 × Int32 → Int32 × Int32 → Prop} (h : T.Pairwise P) (i : Nat) : (T.eraseIdx i).Pairwise P := h.sublist (List.eraseIdx_sublist _ _)
theorem perm_era_of {R : Bk} {i : Nat} (hi : i < R.length) : R.Perm ((kf R i, vf R i) :: R.eraseIdx i) := by
  have e := set_perm R i (kf R i, vf R i) hi
  have e2 : R.set i (kf R i, vf R i) = R := by
    apply List.ext_getElem?
    intro j
    rw [List.getElem?_set]
    by_cases h : i = j
    · subst h; simp [kf, vf, hi]
    · rw [if_neg h]
  rw [e2] at e
  exact e
theorem Tq.era {L R : Bk} {now N : Nat} (h : Tq L R now N) (hL : ND L) {i : Nat} (hi : i < L.length) {j : Nat} (hj : fx R (kf L i) = some j) : Tq (L.eraseIdx i) (swr R j) now N := by
  have hf := h.found hL
  obtain ⟨h0, T, h1, h2, h3, h4⟩ := h
  have hl : T.length = L.length := by have e := congrArg List.length h1; simpa using e
  obtain ⟨hjR, hjk, -⟩ := fx_some hj
  have hR : ND R := hf.1
  refine ⟨h0, T.eraseIdx i, by rw [fst_era, fst_era, h1], pair_era h2 i, fun t ht => h3 t ((List.eraseIdx_sublist _ _).subset ht), ?_⟩
  refine (swr_perm R hjR).trans ?_
  -- the same entry leaves on both sides
  have hm := h4.mem_iff.mpr (kv_mem (T := T) (j := i) (by omega))
  obtain ⟨k, hk, e1, e2⟩ := mem_kv hm
  have hkj : k = j := by
    have a1 : fx R (kf R k) = some k := ND_fx hR hk
    rw [show kf R k = kf L i from e1.trans (map_fst_at h1 i), hj] at a1
    exact (Option.some.inj a1).symm
  subst hkj
  have p1 := perm_era_of hk
  have p2 := perm_era_of (R := T) (i := i) (by omega)
  have e3 : (kf R k, vf R k) = (kf T i, vf T i) := by rw [e1, e2]
  rw [e3] at p1
  exact List.Perm.cons_inv ((p1.symm.trans h4).trans p2)
