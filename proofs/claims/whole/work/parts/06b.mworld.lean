theorem Ap.D9 {a : Nat → Nat} (h : Ap a 9) {e0 e1 e2 e3 e4 e5 e6 e7 e8 : va_E} : va_D (Ao a 9) [(a 0, e0), (a 1, e1), (a 2, e2), (a 3, e3), (a 4, e4), (a 5, e5), (a 6, e6), (a 7, e7), (a 8, e8)] := by
  have key : ∀ (k : Nat) (q : Nat × va_E), ([(a 0, e0), (a 1, e1), (a 2, e2), (a 3, e3), (a 4, e4), (a 5, e5), (a 6, e6), (a 7, e7), (a 8, e8)] : va_W)[k]? = some q → k < 9 ∧ q.1 = a k := by
    intro k q hk
    match k, hk with
    | 0, hk => cases hk; exact ⟨by decide, rfl⟩
    | 1, hk => cases hk; exact ⟨by decide, rfl⟩
    | 2, hk => cases hk; exact ⟨by decide, rfl⟩
    | 3, hk => cases hk; exact ⟨by decide, rfl⟩
    | 4, hk => cases hk; exact ⟨by decide, rfl⟩
    | 5, hk => cases hk; exact ⟨by decide, rfl⟩
    | 6, hk => cases hk; exact ⟨by decide, rfl⟩
    | 7, hk => cases hk; exact ⟨by decide, rfl⟩
    | 8, hk => cases hk; exact ⟨by decide, rfl⟩
    | k + 9, hk => simp at hk
  refine ⟨fun i j x y hi hj hxy => ?_, fun k q hk => ?_⟩
  · obtain ⟨i1, i2⟩ := key i x hi
    obtain ⟨j1, j2⟩ := key j y hj
    exact h i j i1 j1 (by rw [← i2, ← j2]; exact hxy)
  · obtain ⟨k1, k2⟩ := key k q hk
    exact ⟨k, k1, k2⟩

abbrev mdW (cI cZ : ClassId) (d : Nat → Nat) (K V sz cb ck ca it ou : Nat → Int32) (bd : Nat) (th : Int32) (wr : Nat) : va_W := [(d 0, .inr (5, [.ref (d 1), .ref (d 2), .ref (d 3), .int (nI bd), .int th, .ref (d 4), .ref (d 5), .ref (d 6), .ref (d 7), .ref (d 8), .int (nI wr)])), (d 1, .inl (cI, (804, .inl K))), (d 2, .inl (cI, (804, .inl V))), (d 3, .inl (cI, (4, .inl sz))), (d 4, .inl (cI, (3, .inl cb))), (d 5, .inl (cI, (3, .inl ck))), (d 6, .inl (cI, (3, .inl ca))), (d 7, .inl (cZ, (3, .inl it))), (d 8, .inl (cI, (6000, .inl ou)))]
def MdB (B : Nat → Bk) (K V sz : Nat → Int32) : Prop := ∀ b, b < 4 → sz b = nI (B b).length ∧ (B b).length ≤ 201 ∧ ∀ j, j < (B b).length → K (201 * b + j) = kf (B b) j ∧ V (201 * b + j) = vf (B b) j
def MdQ (x : Cu) (w k n t : Int32) : Prop := match x with
  | none => w = -1
  | some (b, k', n', t') => w = nI b ∧ k = nI k' ∧ n = nI n' ∧ t = bI t'
def MdC (C : Nat → Cu) (cb ck ca it : Nat → Int32) : Prop := ∀ c, c < 3 → MdQ (C c) (cb c) (ck c) (ca c) (it c)
def MdO (O : List Int32) (ou : Nat → Int32) : Prop := O.length ≤ 6000 ∧ ∀ j, j < O.length → ou j = O[j]?.getD 0
/-- the reference's cells -/
def MdAt (D : va_G) (cI cZ : ClassId) (d : Nat → Nat) (S : St) (th : Int32) (H : Heap) : Prop := ∃ K V sz cb ck ca it ou, va_P D vwCl (mdW cI cZ d K V sz cb ck ca it ou S.2.1 th S.2.2.2.length) H ∧ MdB S.1 K V sz ∧ MdC S.2.2.1 cb ck ca it ∧ MdO S.2.2.2 ou
theorem MdAt.rc {D : va_G} {cI cZ : ClassId} {d : Nat → Nat} {S : St} {th : Int32} {H : Heap} (h : MdAt D cI cZ d S th H) : Rc D 5 (d 0) H := by
  obtain ⟨K, V, sz, cb, ck, ca, it, ou, h1, -⟩ := h
  exact ⟨_, h1.sub (ws' := [_]) [0] rfl⟩
theorem MdB.at {B : Nat → Bk} {K V sz : Nat → Int32} (h : MdB B K V sz) {b : Nat} (hb : b < 4) : (B b).length ≤ 201 := (h b hb).2.1
theorem up_at {α : Type} (f : Nat → α) (k : Nat) (v : α) (j : Nat) : va_up f k v j = if j = k then v else f j := rfl
/-- another list for one book, on rows that are as they were outside its part -/
theorem MdB.put {B : Nat → Bk} {K V sz K' V' sz' : Nat → Int32} (h : MdB B K V sz) {b : Nat} (L : Bk) (hL : L.length ≤ 201) (hs : sz' b = nI L.length) (hso : ∀ o, o ≠ b → sz' o = sz o) (hk : ∀ j, j < L.length → K' (201 * b + j) = kf L j ∧ V' (201 * b + j) = vf L j) (ho : ∀ q, (q < 201 * b ∨ 201 * b + 201 ≤ q) → K' q = K q ∧ V' q = V q) : MdB (va_up B b L) K' V' sz' := by
  intro o hO
  rw [up_at]
  by_cases e : o = b
  · subst e
    rw [if_pos rfl]
    exact ⟨hs, hL, hk⟩
  · rw [if_neg e, hso o e]
    obtain ⟨h1, h2, h3⟩ := h o hO
    refine ⟨h1, h2, fun j hj => ?_⟩
    obtain ⟨g1, g2⟩ := ho (201 * o + j) (by omega)
    rw [g1, g2]
    exact h3 j hj
theorem off_upd (K : Nat → Int32) (b p : Nat) (x : Int32) : (fun q => upd K (201 * b + p) x (201 * b + q)) = upd (fun q => K (201 * b + q)) p x := by
  funext q
  rw [upd_at, upd_at]
  by_cases e : q = p
  · rw [if_pos e, if_pos (by omega)]
  · rw [if_neg e, if_neg (by omega)]
theorem inb_ok {v lo hi : Int32} (h : ¬ v < lo) (h2 : ¬ hi < v) : lo ≤ v ∧ v ≤ hi := by
  rw [i_lt] at h h2
  rw [i_le, i_le]
  exact ⟨by omega, by omega⟩
def inb (v lo hi : Int32) : Bool := decide (lo ≤ v) && decide (v ≤ hi)
theorem inb_lo {v lo hi : Int32} (h : v < lo) : inb v lo hi = false := by
  unfold inb
  rw [decide_eq_false (fun z => by rw [i_lt] at h; rw [i_le] at z; omega)]; rfl
theorem inb_hi {v lo hi : Int32} (h : hi < v) : inb v lo hi = false := by
  unfold inb
  rw [decide_eq_false (p := v ≤ hi) (fun z => by rw [i_lt] at h; rw [i_le] at z; omega), Bool.and_false]
theorem inb_in {v lo hi : Int32} (h : ¬ v < lo) (h2 : ¬ hi < v) : inb v lo hi = true := by
  obtain ⟨a, b⟩ := inb_ok h h2
  unfold inb
  rw [decide_eq_true a, decide_eq_true b]; rfl
/-- 'from 0 to n - 1' told by rch -/
theorem inb_rch {n : Nat} (hn : n < 2 ^ 31) (v hi : Int32) (hh : hi.toInt = (n : Int) - 1) : inb v 0 hi = rch n v := by
  cases h : rch n v with
  | true =>
    obtain ⟨j, hj, e⟩ := rch_of hn h
    subst e
    have e0 : (0 : Int32).toInt = 0 := by decide
    exact inb_in (by rw [i_lt, nI_toInt (by omega), e0]; omega) (by rw [i_lt, nI_toInt (by omega), hh]; omega)
  | false =>
    cases h2 : inb v 0 hi with
    | false => rfl
    | true =>
      exfalso
      unfold inb at h2
      rw [Bool.and_eq_true, decide_eq_true_eq, decide_eq_true_eq, i_le, i_le] at h2
      have e0 : (0 : Int32).toInt = 0 := by decide
      unfold rch at h
      rw [decide_eq_false_iff_not] at h
      exact h ⟨by rw [i_le]; omega, by rw [i_lt, nI_toInt hn]; omega⟩
