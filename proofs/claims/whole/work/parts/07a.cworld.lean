/-! ===== the class's cells ===== -/
/-- where the book b lies (4: the spare one); where the output lies -/
abbrev bk_ (ad : Nat → Nat) (b : Nat) : Nat → Nat := fun i => ad (1 + 6 * b + i)
abbrev ou_ (ad : Nat → Nat) : Nat → Nat := fun i => ad (34 + i)
def bdO (S : St) (b : Nat) : Nat := if b = 2 then S.2.1 else 200
abbrev xF (ad : Nat → Nat) : List Value := [.ref (ad 1), .ref (ad 7), .ref (ad 13), .ref (ad 19), .ref (ad 25), .ref (ad 31), .ref (ad 32), .ref (ad 33), .ref (ad 34)]
abbrev xW (ad : Nat → Nat) : va_W := [(ad 0, .inr (4, xF ad))]
def Wc (D : va_G) (cI cC : ClassId) (ad : Nat → Nat) (S : St) (N : Nat) (H : Heap) : Prop := va_P D vwCl (xW ad) H ∧ (∀ b, b < 4 → BookAt D cI (bk_ ad b) (lgO b) (bdO S b) (S.1 b) N H) ∧ (∃ LS, BookAt D cI (bk_ ad 4) false 200 LS N H) ∧ (∀ c, c < 3 → CurAt D (ad (31 + c)) (S.2.2.1 c) H) ∧ OutAt D cC (ou_ ad) S.2.2.2 H
section WC
variable {D : va_G} {cI cC : ClassId} {ad : Nat → Nat} {S : St} {N : Nat} {H H1 : Heap}
theorem Wc.x (h : Wc D cI cC ad S N H) : va_P D vwCl (xW ad) H := h.1
theorem Wc.rc (h : Wc D cI cC ad S N H) : Rc D 4 (ad 0) H := ⟨_, h.1⟩
theorem Wc.bk (h : Wc D cI cC ad S N H) {b : Nat} (hb : b < 4) : BookAt D cI (bk_ ad b) (lgO b) (bdO S b) (S.1 b) N H := h.2.1 b hb
theorem Wc.sp (h : Wc D cI cC ad S N H) : ∃ LS, BookAt D cI (bk_ ad 4) false 200 LS N H := h.2.2.1
theorem Wc.cu (h : Wc D cI cC ad S N H) {c : Nat} (hc : c < 3) : CurAt D (ad (31 + c)) (S.2.2.1 c) H := h.2.2.2.1 c hc
theorem Wc.ou (h : Wc D cI cC ad S N H) : OutAt D cC (ou_ ad) S.2.2.2 H := h.2.2.2.2
theorem Wc.mono (h : Wc D cI cC ad S N H) {M : Nat} (hM : N ≤ M) : Wc D cI cC ad S M H := by
  obtain ⟨h1, h2, ⟨LS, h3⟩, h4, h5⟩ := h
  exact ⟨h1, fun b hb => (h2 b hb).mono hM, ⟨LS, h3.mono hM⟩, h4, h5⟩
theorem Wc.lt (h : Wc D cI cC ad S N H) {i : Nat} (hi : i < 36) : ad i < H.size := by
  obtain ⟨h1, h2, ⟨LS, h3⟩, h4, h5⟩ := h
  rcases Nat.eq_zero_or_pos i with e | e
  · subst e; exact va_lt h1 (k := 0) rfl
  · by_cases q : i < 25
    · have h := (h2 ((i - 1) / 6) (by omega)).lt (i := (i - 1) % 6) (by omega)
      have e2 : 1 + 6 * ((i - 1) / 6) + (i - 1) % 6 = i := by omega
      exact (congrArg ad e2) ▸ h
    · by_cases q2 : i < 31
      · have h := h3.lt (i := i - 25) (by omega)
        have e2 : 1 + 6 * 4 + (i - 25) = i := by omega
        exact (congrArg ad e2) ▸ h
      · by_cases q3 : i < 34
        · have h := (h4 (i - 31) (by omega)).lt
          have e2 : 31 + (i - 31) = i := by omega
          exact (congrArg ad e2) ▸ h
        · have h := h5.lt (i := i - 34) (by omega)
          have e2 : 34 + (i - 34) = i := by omega
          exact (congrArg ad e2) ▸ h
/-- what stays when only the cells from lo to hi - 1 change -/
theorem Wc.same (h : Wc D cI cC ad S N H) (hap : Ap ad 36) {A : Nat → Prop} {lo hi : Nat} (hhi : hi ≤ 36) (hA : ∀ q, A q → ∃ i, lo ≤ i ∧ i < hi ∧ q = ad i) (hk : ∀ q : Nat, q < H.size → ¬ A q → H1[q]? = H[q]?) {i : Nat} (hi2 : i < 36) (ho : i < lo ∨ hi ≤ i) : H1[ad i]? = H[ad i]? := hk _ (h.lt hi2) (fun z => by
  obtain ⟨j, h1, h2, e⟩ := hA _ z
  have := hap i j hi2 (by omega) e
  omega)
theorem bk_A {b : Nat} (q : Nat) (h : Ao (bk_ ad b) 6 q) : ∃ i, 1 + 6 * b ≤ i ∧ i < 7 + 6 * b ∧ q = ad i := by
  obtain ⟨i, hi, e⟩ := h
  exact ⟨1 + 6 * b + i, by omega, by omega, e⟩
theorem bk_A3 {b : Nat} (q : Nat) (h : Ao (bk_ ad b) 3 q) : ∃ i, 1 + 6 * b ≤ i ∧ i < 7 + 6 * b ∧ q = ad i := bk_A q (h.mono (by decide))
theorem ou_A (q : Nat) (h : Ao (ou_ ad) 2 q) : ∃ i, 34 ≤ i ∧ i < 36 ∧ q = ad i := by
  obtain ⟨i, hi, e⟩ := h
  exact ⟨34 + i, by omega, by omega, e⟩
theorem cu_A {c : Nat} (q : Nat) (h : q = ad (31 + c)) : ∃ i, 31 + c ≤ i ∧ i < 32 + c ∧ q = ad i := ⟨31 + c, by omega, by omega, h⟩
theorem bk_Ao {b : Nat} (hb : b < 5) (q : Nat) (h : Ao (bk_ ad b) 6 q) : Ao ad 36 q := by
  obtain ⟨i, h1, h2, e⟩ := bk_A q h
  exact ⟨i, by omega, e⟩
theorem bk_Ao3 {b : Nat} (hb : b < 5) (q : Nat) (h : Ao (bk_ ad b) 3 q) : Ao ad 36 q := bk_Ao hb q (h.mono (by decide))
theorem ou_Ao (q : Nat) (h : Ao (ou_ ad) 2 q) : Ao ad 36 q := by
  obtain ⟨i, h1, h2, e⟩ := ou_A q h
  exact ⟨i, h2, e⟩
theorem cu_Ao {c : Nat} (hc : c < 3) (q : Nat) (h : q = ad (31 + c)) : Ao ad 36 q := ⟨31 + c, by omega, h⟩
theorem bk_Ap {b : Nat} (hb : b < 5) (hap : Ap ad 36) : Ap (bk_ ad b) 6 := fun i j hi hj e => by
  have := hap (1 + 6 * b + i) (1 + 6 * b + j) (by omega) (by omega) e
  omega
theorem ou_Ap (hap : Ap ad 36) : Ap (ou_ ad) 2 := fun i j hi hj e => by
  have := hap (34 + i) (34 + j) (by omega) (by omega) e
  omega
/-- the books are apart -/
theorem bk_off {b o : Nat} (hb : b < 5) (ho : o < 5) (hbo : b ≠ o) (hap : Ap ad 36) (i : Nat) (hi : i < 3) : ¬ Ao (bk_ ad b) 6 (bk_ ad o i) := fun z => by
  obtain ⟨j, h1, h2, e⟩ := bk_A _ z
  have := hap (1 + 6 * o + i) j (by omega) (by omega) e
  omega
/-- another book at b, another bound if it is the one with a bound -/
theorem Wc.book_ (h : Wc D cI cC ad S N H) (hap : Ap ad 36) {A : Nat → Prop} {b : Nat} (hb : b < 4) (hA : ∀ q, A q → ∃ i, 1 + 6 * b ≤ i ∧ i < 7 + 6 * b ∧ q = ad i) (hk : ∀ q : Nat, q < H.size → ¬ A q → H1[q]? = H[q]?) {L : Bk} {bd M : Nat} (hM : N ≤ M) (hbd : bd = if b = 2 then bd else S.2.1) (hB : BookAt D cI (bk_ ad b) (lgO b) (if b = 2 then bd else 200) L M H1) : Wc D cI cC ad (va_up S.1 b L, bd, S.2.2) M H1 := by
  have hs : ∀ {i : Nat}, i < 36 → (i < 1 + 6 * b ∨ 7 + 6 * b ≤ i) → H1[ad i]? = H[ad i]? := fun hi ho => h.same hap (by omega) hA hk hi ho
  obtain ⟨h1, h2, ⟨LS, h3⟩, h4, h5⟩ := h
  refine ⟨h1.kept (fun k q hq => ?_), fun o ho => ?_, ⟨LS, (h3.mono hM).kept (fun i hi => hs (by omega) (by omega))⟩, fun c hc => (h4 c hc).kept (hs (by omega) (by omega)), h5.kept (fun i hi => hs (by omega) (by omega))⟩
  · match k, hq with
    | 0, hq => cases hq; exact hs (i := 0) (by omega) (by omega)
    | k + 1, hq => simp at hq
  · show BookAt D cI (bk_ ad o) (lgO o) (if o = 2 then bd else 200) (va_up S.1 b L o) M H1
    rw [up_at]
    by_cases e : o = b
    · subst e; rw [if_pos rfl]; exact hB
    · rw [if_neg e]
      have h6 := ((h2 o ho).mono hM).kept (H1 := H1) (fun i hi => hs (by omega) (by omega))
      by_cases e2 : o = 2
      · rw [if_neg (show ¬ b = 2 by omega)] at hbd
        rw [if_pos e2, hbd]
        unfold bdO at h6
        rw [if_pos e2] at h6
        exact h6
      · rw [if_neg e2]
        unfold bdO at h6
        rw [if_neg e2] at h6
        exact h6
theorem Wc.book (h : Wc D cI cC ad S N H) (hap : Ap ad 36) {A : Nat → Prop} {b : Nat} (hb : b < 4) (hA : ∀ q, A q → ∃ i, 1 + 6 * b ≤ i ∧ i < 7 + 6 * b ∧ q = ad i) (hk : ∀ q : Nat, q < H.size → ¬ A q → H1[q]? = H[q]?) {L : Bk} {M : Nat} (hM : N ≤ M) (hB : BookAt D cI (bk_ ad b) (lgO b) (bdO S b) L M H1) : Wc D cI cC ad (upB S b L) M H1 := h.book_ hap hb hA hk hM (by split <;> rfl) hB
theorem Wc.cur (h : Wc D cI cC ad S N H) (hap : Ap ad 36) {A : Nat → Prop} {c : Nat} (hc : c < 3) (hA : ∀ q, A q → q = ad (31 + c)) (hk : ∀ q : Nat, q < H.size → ¬ A q → H1[q]? = H[q]?) {x : Cu} (hC : CurAt D (ad (31 + c)) x H1) : Wc D cI cC ad (stC S c x) N H1 := by
  have hs : ∀ {i : Nat}, i < 36 → (i < 31 + c ∨ 32 + c ≤ i) → H1[ad i]? = H[ad i]? := fun hi ho => h.same hap (by omega) (fun q z => cu_A q (hA q z)) hk hi ho
  obtain ⟨h1, h2, ⟨LS, h3⟩, h4, h5⟩ := h
  refine ⟨h1.kept (fun k q hq => ?_), fun o ho => (h2 o ho).kept (fun i hi => hs (by omega) (by omega)), ⟨LS, h3.kept (fun i hi => hs (by omega) (by omega))⟩, fun c' hc' => ?_, h5.kept (fun i hi => hs (by omega) (by omega))⟩
  · match k, hq with
    | 0, hq => cases hq; exact hs (i := 0) (by omega) (by omega)
    | k + 1, hq => simp at hq
  · show CurAt D (ad (31 + c')) (va_up S.2.2.1 c x c') H1
    rw [up_at]
    by_cases e : c' = c
    · subst e; rw [if_pos rfl]; exact hC
    · rw [if_neg e]; exact (h4 c' hc').kept (hs (by omega) (by omega))
theorem Wc.out (h : Wc D cI cC ad S N H) (hap : Ap ad 36) (hk : ∀ q : Nat, q < H.size → ¬ Ao (ou_ ad) 2 q → H1[q]? = H[q]?) {O : List Int32} (hO : OutAt D cC (ou_ ad) O H1) : Wc D cI cC ad (wS S O) N H1 := by
  have hs : ∀ {i : Nat}, i < 36 → (i < 34 ∨ 36 ≤ i) → H1[ad i]? = H[ad i]? := fun hi ho => h.same hap (by omega) ou_A hk hi ho
  obtain ⟨h1, h2, ⟨LS, h3⟩, h4, h5⟩ := h
  refine ⟨h1.kept (fun k q hq => ?_), fun o ho => (h2 o ho).kept (fun i hi => hs (by omega) (by omega)), ⟨LS, h3.kept (fun i hi => hs (by omega) (by omega))⟩, fun c hc => (h4 c hc).kept (hs (by omega) (by omega)), hO⟩
  match k, hq with
  | 0, hq => cases hq; exact hs (i := 0) (by omega) (by omega)
  | k + 1, hq => simp at hq
theorem Wc.spare (h : Wc D cI cC ad S N H) (hap : Ap ad 36) (hk : ∀ q : Nat, q < H.size → ¬ Ao (bk_ ad 4) 6 q → H1[q]? = H[q]?) {L : Bk} {M : Nat} (hM : N ≤ M) (hB : BookAt D cI (bk_ ad 4) false 200 L M H1) : Wc D cI cC ad S M H1 := by
  have hs : ∀ {i : Nat}, i < 36 → (i < 25 ∨ 31 ≤ i) → H1[ad i]? = H[ad i]? := fun hi ho => h.same hap (by omega) bk_A hk hi ho
  obtain ⟨h1, h2, -, h4, h5⟩ := h
  refine ⟨h1.kept (fun k q hq => ?_), fun o ho => ((h2 o ho).mono hM).kept (fun i hi => hs (by omega) (by omega)), ⟨L, hB⟩, fun c hc => (h4 c hc).kept (hs (by omega) (by omega)), h5.kept (fun i hi => hs (by omega) (by omega))⟩
  match k, hq with
  | 0, hq => cases hq; exact hs (i := 0) (by omega) (by omega)
  | k + 1, hq => simp at hq
end WC
theorem ent_bd (b : Nat) (S : St) (L : Bk) (x y : Int32) : ent (lgO b) (bdO S b) L x y = ent (lgO b) S.2.1 L x y := by
  unfold bdO
  by_cases e : b = 2
  · rw [if_pos e]
  · rw [show lgO b = false from decide_eq_false e, ent_plain, ent_plain]
theorem stq_bd (b : Nat) (S : St) (L : Bk) (x y : Int32) : stq (lgO b) (bdO S b) L x y = stq (lgO b) S.2.1 L x y := by
  cases h : fx L x with
  | none => rw [stq_no h, stq_no h, ent_bd]
  | some i => rw [stq_at h, stq_at h]
theorem stF_bd (b : Nat) (S : St) (L M : Bk) : ∀ n, stF (lgO b) (bdO S b) L M n = stF (lgO b) S.2.1 L M n
  | 0 => rfl
  | n + 1 => by
    show stq (lgO b) (bdO S b) (stF (lgO b) (bdO S b) L M n) _ _ = stq (lgO b) S.2.1 (stF (lgO b) S.2.1 L M n) _ _
    rw [stF_bd b S L M n, stq_bd]
theorem fiA_bd (b : Nat) (S : St) (L : Bk) (f s : Int32) : ∀ n, fiA (lgO b) (bdO S b) L f s n = fiA (lgO b) S.2.1 L f s n
  | 0 => rfl
  | n + 1 => by
    show (stq (lgO b) (bdO S b) (fiA (lgO b) (bdO S b) L f s n).1 _ 0, _) = (stq (lgO b) S.2.1 (fiA (lgO b) S.2.1 L f s n).1 _ 0, _)
    rw [fiA_bd b S L f s n, stq_bd]
theorem bdO_le {S : St} (hI : Inv S) (b : Nat) : bdO S b ≤ 200 := by
  unfold bdO
  have := hI.2.2.2.1
  split <;> omega
