/-! ===== what is divided here is never a NaN ===== -/
def DOk : FP.Core.Datum → Prop
  | .nan => False
  | .inf _ => True
  | .fin _ c q => c < 9007199254740992 ∧ (c < 4503599627370496 ∨ q ≤ 971)
theorem b64_exps : FP.Core.Fmt.exps FP.Core.b64 = 2048 := by decide +kernel
theorem b64_tails : FP.Core.Fmt.tails FP.Core.b64 = 4503599627370496 := by decide +kernel
theorem b64_qmin : FP.Core.Fmt.qmin FP.Core.b64 = -1074 := by decide +kernel
theorem b64_qmax : FP.Core.Fmt.qmax FP.Core.b64 = 971 := by decide +kernel
theorem b64_top : 2 ^ FP.Core.b64.p = 9007199254740992 := by decide +kernel
theorem enc64 {dd : FP.Core.Datum} (h : DOk dd) : ∃ (E T : Nat) (s : Bool), E ≤ 2047 ∧ T < 4503599627370496 ∧ (E = 2047 → T = 0) ∧ FP.Core.encode FP.Core.b64 dd = (s.toNat * 2048 + E) * 4503599627370496 + T := by
  cases dd with
  | nan => exact h.elim
  | inf s =>
    refine ⟨2047, 0, s, by omega, by omega, fun _ => rfl, ?_⟩
    unfold FP.Core.encode FP.Core.assemble
    rw [b64_exps, b64_tails]
  | fin s c q =>
    obtain ⟨h1, h2⟩ := h
    by_cases hc : c < 4503599627370496
    · refine ⟨0, c, s, by omega, hc, fun z => absurd z (by decide), ?_⟩
      unfold FP.Core.encode FP.Core.assemble
      rw [b64_exps, b64_tails]
      exact if_pos hc
    · refine ⟨(q - (-1074)).toNat + 1, c - 4503599627370496, s, by omega, by omega, fun z => by omega, ?_⟩
      unfold FP.Core.encode FP.Core.assemble
      rw [b64_exps, b64_tails, b64_qmin]
      exact if_neg hc
theorem DOk.bits {dd : FP.Core.Datum} (h : DOk dd) : vf_n64 (UInt64.ofNat (FP.Core.encode FP.Core.b64 dd)) ∧ FP.Core.decode FP.Core.b64 (UInt64.ofNat (FP.Core.encode FP.Core.b64 dd)).toNat ≠ .nan := by
  obtain ⟨E, T, s, h1, h2, h3, h4⟩ := enc64 h
  rw [h4]
  have hs : s.toNat ≤ 1 := by cases s <;> decide
  generalize hn : (s.toNat * 2048 + E) * 4503599627370496 + T = n
  have ht : (UInt64.ofNat n).toNat = n := by
    rw [UInt64.toNat_ofNat']
    exact Nat.mod_eq_of_lt (by omega)
  constructor
  · unfold vf_n64
    rw [UInt64.le_iff_toNat_le, UInt64.toNat_and, ht]
    show n &&& (2 ^ 63 - 1) ≤ 9218868437227405312
    rw [Nat.and_two_pow_sub_one_eq_mod]
    have hm : n % 2 ^ 63 = E * 4503599627370496 + T := by omega
    rw [hm]
    by_cases e9 : E = 2047
    · have := h3 e9
      omega
    · omega
  · rw [ht]
    have hE : FP.Core.fieldE FP.Core.b64 n = E := by
      unfold FP.Core.fieldE
      rw [b64_exps, b64_tails]
      omega
    have hT : FP.Core.fieldT FP.Core.b64 n = T := by
      unfold FP.Core.fieldT
      rw [b64_tails]
      omega
    unfold FP.Core.decode
    rw [hE, hT, b64_exps]
    by_cases e9 : E = 2048 - 1
    · rw [if_pos e9, if_pos (h3 e9)]
      intro z
      cases z
    · rw [if_neg e9]
      split <;> (intro z; cases z)
theorem DOk.ratio (s : Bool) (num den : Nat) (e : Int) : DOk (FP.Core.roundRatio FP.Core.b64 s num den e) := by
  unfold FP.Core.roundRatio
  split
  · exact ⟨by decide, Or.inl (by decide)⟩
  · unfold FP.Core.roundAt FP.Core.settle
    split
    · rename_i h1
      rw [b64_top] at h1
      unfold FP.Core.bound
      split
      · rename_i h2
        rw [b64_qmax] at h2
        exact ⟨h1, Or.inr h2⟩
      · exact trivial
    · unfold FP.Core.bound
      split
      · rename_i h2
        rw [b64_qmax] at h2
        rw [b64_tails]
        exact ⟨by decide, Or.inr h2⟩
      · exact trivial
theorem l2d_ok (t : Int64) : FP.Core.decode FP.Core.b64 (FP.l2d t).toNat ≠ .nan := (DOk.ratio _ _ _ _).bits.2
def okd (n : Nat) : Bool := match FP.Core.decode FP.Core.b64 (FP.i2d (nI n)).toNat with
  | .fin _ c _ => c != 0
  | _ => false
theorem okd_all : (List.range 201).all (fun n => n == 0 || okd n) = true := by decide +kernel
theorem i2d_ok {n : Nat} (h0 : n ≠ 0) (h : n ≤ 200) : ∃ s c q, FP.Core.decode FP.Core.b64 (FP.i2d (nI n)).toNat = .fin s c q ∧ c ≠ 0 := by
  have h1 := List.all_eq_true.mp okd_all n (List.mem_range.mpr (by omega))
  rw [Bool.or_eq_true] at h1
  have h2 : okd n = true := h1.resolve_left (fun z => h0 (by simpa using z))
  unfold okd at h2
  split at h2
  · rename_i s c q hd
    exact ⟨s, c, q, hd, by simpa using h2⟩
  · cases h2
theorem quo_ok {x : FP.Core.Datum} {t : Bool} {d : Nat} {r : Int} (hx : x ≠ .nan) (hd : d ≠ 0) : DOk (FP.Core.quotient FP.Core.b64 x (.fin t d r)) := by
  cases x with
  | nan => exact absurd rfl hx
  | inf s => exact trivial
  | fin s c q =>
    show DOk (if d = 0 then (if c = 0 then .nan else .inf (s != t)) else FP.Core.roundRatio FP.Core.b64 (s != t) c d (q - r))
    rw [if_neg hd]
    exact DOk.ratio _ _ _ _
theorem mean_ok (t : Int64) {n : Nat} (h0 : n ≠ 0) (h : n ≤ 200) : vf_n64 (FP.ddiv (FP.l2d t) (FP.i2d (nI n))) ∧ FP.Core.decode FP.Core.b64 (FP.ddiv (FP.l2d t) (FP.i2d (nI n))).toNat ≠ .nan := by
  obtain ⟨s, c, q, h1, h2⟩ := i2d_ok h0 h
  have h3 : DOk (FP.Core.quotient FP.Core.b64 (FP.Core.decode FP.Core.b64 (FP.l2d t).toNat) (FP.Core.decode FP.Core.b64 (FP.i2d (nI n)).toNat)) := by
    rw [h1]
    exact quo_ok (l2d_ok t) h2
  exact h3.bits
theorem cmp_self (a : Int) : compare a a = .eq := by
  simp [compare, compareOfLessAndEq]
theorem dcmp_refl {a : UInt64} (h : FP.Core.decode FP.Core.b64 a.toNat ≠ .nan) : FP.dcmp a a = some .eq := by
  show FP.Core.order (FP.Core.decode FP.Core.b64 a.toNat) (FP.Core.decode FP.Core.b64 a.toNat) = some .eq
  generalize FP.Core.decode FP.Core.b64 a.toNat = x at h
  cases x with
  | nan => exact absurd rfl h
  | inf => exact congrArg some (cmp_self _)
  | fin s c q => exact congrArg some (cmp_self _)
theorem meanL_ok {L : Bk} (h : L.length ≤ 200) : FP.dcmp (meanL L) (meanL L) = some .eq := by
  unfold meanL
  by_cases h0 : L.length = 0
  · rw [if_pos h0]; decide +kernel
  · rw [if_neg h0]; exact dcmp_refl (mean_ok _ h0 h).2
/-- the bounded book's fullness: at most 40 by at most 40 -/
def fuV (a b : Nat) : UInt32 := FP.fdiv (FP.i2f (nI a)) (FP.i2f (nI b))
def fuB (a b : Nat) : Bool := decide (fuV a b &&& 0x7fffffff ≤ 0x7f800000) && decide (FP.f2d (fuV a b) &&& 0x7fffffffffffffff ≤ 0x7ff0000000000000) && (FP.dcmp (FP.f2d (fuV a b)) (FP.f2d (fuV a b)) == some .eq)
theorem fuB_all : (List.range 41).all (fun a => (List.range 41).all (fun b => b == 0 || fuB a b)) = true := by decide +kernel
theorem fu_ok {a b : Nat} (ha : a ≤ 40) (hb0 : b ≠ 0) (hb : b ≤ 40) : vf_n32 (fuV a b) ∧ vf_n64 (FP.f2d (fuV a b)) ∧ FP.dcmp (FP.f2d (fuV a b)) (FP.f2d (fuV a b)) = some .eq := by
  have h1 := List.all_eq_true.mp (List.all_eq_true.mp fuB_all a (List.mem_range.mpr (by omega))) b (List.mem_range.mpr (by omega))
  rw [Bool.or_eq_true] at h1
  have h2 : fuB a b = true := h1.resolve_left (fun z => hb0 (by simpa using z))
  unfold fuB at h2
  rw [Bool.and_eq_true, Bool.and_eq_true] at h2
  have q1 : fuV a b &&& 0x7fffffff ≤ 0x7f800000 := of_decide_eq_true h2.1.1
  have q2 : FP.f2d (fuV a b) &&& 0x7fffffffffffffff ≤ 0x7ff0000000000000 := of_decide_eq_true h2.1.2
  exact ⟨q1, q2, eq_of_beq h2.2⟩
