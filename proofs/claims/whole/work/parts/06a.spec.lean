/-! ===== what each call answers: 0 and the answer, or the place of its exception; and the state behind it ===== -/
/-- the books; the bound; the cursors; the output -/
abbrev St : Type := (Nat → Bk) × Nat × (Nat → Cu) × List Int32
def upB (S : St) (b : Nat) (L : Bk) : St := (va_up S.1 b L, S.2)
/-- closes the cursors of a book, but one -/
def clo (C : Nat → Cu) (b : Nat) (but : Int32) : Nat → Cu := fun c => match C c with
  | none => none
  | some x => if x.1 = b ∧ nI c ≠ but then none else some x
def clB (S : St) (b : Nat) (but : Int32) : St := (S.1, S.2.1, clo S.2.2.1 b but, S.2.2.2)
def stC (S : St) (c : Nat) (x : Cu) : St := (S.1, S.2.1, va_up S.2.2.1 c x, S.2.2.2)
/-- a number as one of n -/
def bkn (n : Nat) (x : Int32) : Option Nat := if rch n x = true then some x.toNatClampNeg else none
theorem bkn_nI {n b : Nat} (h : b < n) (hn : n < 2 ^ 31) : bkn n (nI b) = some b := by
  unfold bkn
  rw [rch_in h hn, if_pos rfl, nI_clamp (by omega)]
theorem bkn_cases (n : Nat) (hn : n < 2 ^ 31) (x : Int32) : (∃ b, b < n ∧ x = nI b ∧ bkn n x = some b) ∨ (bkn n x = none ∧ rch n x = false) := by
  cases h : rch n x with
  | true =>
    obtain ⟨b, hb, e⟩ := rch_of hn h
    subst e
    exact Or.inl ⟨b, hb, rfl, bkn_nI hb hn⟩
  | false =>
    refine Or.inr ⟨?_, rfl⟩
    unfold bkn
    rw [h]; rfl
def full (S : St) (b : Nat) (key : Int32) : Bool := decide (b ≠ 2) && decide ((S.1 b).length = 200) && (fx (S.1 b) key).isNone
abbrev lgO (b : Nat) : Bool := decide (b = 2)
def sp_rebind (S : St) (x : Int32) : Nat × Int32 × St :=
  if 1 ≤ x ∧ x ≤ 40 then (0, nI (S.1 2).length, (va_up S.1 2 [], x.toNatClampNeg, clo S.2.2.1 2 (-1), S.2.2.2)) else (1, 0, S)
def sp_put (S : St) (x key v : Int32) : Nat × Bool × St := match bkn 4 x with
  | none => (1, false, S)
  | some b => if b = 3 then (2, false, S) else if full S b key = true then (3, false, S) else
    (0, (fx (S.1 b) key).isSome, clB (upB S b (stq (lgO b) S.2.1 (S.1 b) key v)) b (-1))
/-- what a call for a plain book is refused by -/
def lack (S : St) (x key : Int32) : Nat := match bkn 4 x with
  | none => 1
  | some b => if 2 ≤ b then 2 else if full S b key = true then 3 else 0
def sp_putNew (S : St) (x key v : Int32) : Nat × Int32 × St := match bkn 4 x with
  | none => (1, 0, S)
  | some b => if 2 ≤ b then (2, 0, S) else if full S b key = true then (3, 0, S) else
    match fx (S.1 b) key with
    | none => (0, v, clB (upB S b (S.1 b ++ [(key, v)])) b (-1))
    | some i => (0, vf (S.1 b) i, clB S b (-1))
def sp_add (S : St) (x key v : Int32) : Nat × Int32 × St := match bkn 4 x with
  | none => (1, 0, S)
  | some b => if 2 ≤ b then (2, 0, S) else if full S b key = true then (3, 0, S) else
    match fx (S.1 b) key with
    | none => (0, v, clB (upB S b (S.1 b ++ [(key, v)])) b (-1))
    | some i => (0, vf (S.1 b) i + v, clB (upB S b (sv (S.1 b) i (vf (S.1 b) i + v))) b (-1))
def sp_halve (S : St) (x key : Int32) : Nat × Bool × St := match bkn 4 x with
  | none => (1, false, S)
  | some b => if 2 ≤ b then (2, false, S) else
    match fx (S.1 b) key with
    | none => (0, false, clB S b (-1))
    | some i => if vf (S.1 b) i / 2 = 0 then (0, false, clB (upB S b ((S.1 b).eraseIdx i)) b (-1)) else (0, true, clB (upB S b (sv (S.1 b) i (vf (S.1 b) i / 2))) b (-1))
/-- a number is added to the values of the first n pairs -/
def adA (L : Bk) (x : Int32) : Nat → Bk
  | 0 => L
  | n + 1 => sv (adA L x n) n (vf L n + x)
def sp_addToAll (S : St) (x v : Int32) : Nat × Int32 × St := match bkn 4 x with
  | none => (1, 0, S)
  | some b => if b = 3 then (2, 0, S) else (0, nI (S.1 b).length, clB (upB S b (adA (S.1 b) v (S.1 b).length)) b (-1))
def sp_replace (S : St) (x key v : Int32) : Nat × Bool × St := match bkn 4 x with
  | none => (1, false, S)
  | some b => if b = 3 then (2, false, S) else
    match fx (S.1 b) key with
    | none => (0, false, clB S b (-1))
    | some i => (0, true, clB (upB S b (sv (S.1 b) i v)) b (-1))
def sp_remove (S : St) (x key : Int32) : Nat × Int32 × St := match bkn 4 x with
  | none => (1, 0, S)
  | some b => if b = 3 then (2, 0, S) else
    match fx (S.1 b) key with
    | none => (3, 0, S)
    | some i => (0, vf (S.1 b) i, clB (upB S b ((S.1 b).eraseIdx i)) b (-1))
def sp_removePair (S : St) (x key v : Int32) : Nat × Bool × St := match bkn 4 x with
  | none => (1, false, S)
  | some b => if b = 3 then (2, false, S) else
    match fx (S.1 b) key with
    | none => (0, false, clB S b (-1))
    | some i => if vf (S.1 b) i = v then (0, true, clB (upB S b ((S.1 b).eraseIdx i)) b (-1)) else (0, false, clB S b (-1))
/-- n pairs are put -/
def fiA (lg : Bool) (bd : Nat) (L : Bk) (from_ step : Int32) : Nat → Bk × Int32
  | 0 => (L, from_)
  | n + 1 => (stq lg bd (fiA lg bd L from_ step n).1 (fiA lg bd L from_ step n).2 0, (fiA lg bd L from_ step n).2 + step)
def sp_fill (S : St) (x from_ step many : Int32) : Nat × Int32 × St := match bkn 4 x with
  | none => (1, 0, S)
  | some b => match bkn 61 many with
    | none => (2, 0, S)
    | some n => if b = 3 then (2, 0, S) else if b ≠ 2 ∧ 140 < (S.1 b).length then (3, 0, S) else
      (0, nI (fiA (lgO b) S.2.1 (S.1 b) from_ step n).1.length, clB (upB S b (fiA (lgO b) S.2.1 (S.1 b) from_ step n).1) b (-1))
def sp_pour (S : St) (x y : Int32) : Nat × Int32 × St := match bkn 4 x, bkn 4 y with
  | some b, some o => if o = 3 ∨ b = o then (2, 0, S) else if o ≠ 2 ∧ 200 < (S.1 o).length + cms (S.1 b) (S.1 o) (S.1 b).length then (3, 0, S) else
    (0, nI (stF (lgO o) S.2.1 (S.1 o) (S.1 b) (S.1 b).length).length, clB (upB S o (stF (lgO o) S.2.1 (S.1 o) (S.1 b) (S.1 b).length)) o (-1))
  | _, _ => (1, 0, S)
def sp_copy (S : St) (x y : Int32) : Nat × Int32 × St := match bkn 4 x, bkn 4 y with
  | some b, some o => if 2 ≤ o ∨ b = o then (2, 0, S) else (0, nI (S.1 b).length, clB (upB S o (S.1 b)) o (-1))
  | _, _ => (1, 0, S)
def sp_clear (S : St) (x : Int32) : Nat × Int32 × St := match bkn 4 x with
  | none => (1, 0, S)
  | some b => if b = 3 then (2, 0, S) else (0, nI (S.1 b).length, clB (upB S b []) b (-1))
def sp_offer (S : St) (x : Int32) : Nat × Bool × St := if full S 3 x = true then (1, false, S) else
  match fx (S.1 3) x with
  | none => (0, true, clB (upB S 3 (S.1 3 ++ [(x, 1)])) 3 (-1))
  | some i => (0, false, clB (upB S 3 (sv (S.1 3) i (vf (S.1 3) i + 1))) 3 (-1))
def sp_poll (S : St) : Nat × Int32 × St := if (S.1 3).length = 0 then (1, 0, S) else (0, kf (S.1 3) 0, clB (upB S 3 ((S.1 3).eraseIdx 0)) 3 (-1))
def sp_toEnd (S : St) (x : Int32) : Nat × Int32 × St := match fx (S.1 3) x with
  | none => (1, 0, S)
  | some i => (0, nI i, clB (upB S 3 ((S.1 3).eraseIdx i ++ [(x, vf (S.1 3) i)])) 3 (-1))
def sp_open (S : St) (x y z : Int32) : Nat × Int32 × St := match bkn 3 x, bkn 4 y with
  | some c, some b => match bkn 3 z with
    | none => (2, 0, S)
    | some k => (0, nI (S.1 b).length, stC S c (some (b, k, 0, false)))
  | _, _ => (1, 0, S)
def sp_hasNext (S : St) (x : Int32) : Nat × Bool × St := match bkn 3 x with
  | none => (1, false, S)
  | some c => match S.2.2.1 c with
    | none => (2, false, S)
    | some (b, _, n, _) => (0, decide (n < (S.1 b).length), S)
def sp_next (S : St) (x : Int32) : Nat × Int32 × St := match bkn 3 x with
  | none => (1, 0, S)
  | some c => match S.2.2.1 c with
    | none => (2, 0, S)
    | some (b, k, n, _) => if n < (S.1 b).length then (0, if k = 1 then vf (S.1 b) n else kf (S.1 b) n, stC S c (some (b, k, n + 1, true))) else (3, 0, S)
def sp_removeAt (S : St) (x : Int32) : Nat × Int32 × St := match bkn 3 x with
  | none => (1, 0, S)
  | some c => match S.2.2.1 c with
    | none => (2, 0, S)
    | some (b, k, n, t) => if b = 3 ∨ t = false then (2, 0, S) else
      (0, nI ((S.1 b).length - 1), clB (stC (upB S b ((S.1 b).eraseIdx (n - 1))) c (some (b, k, n - 1, false))) b (nI c))
def sp_setAt (S : St) (x v : Int32) : Nat × Int32 × St := match bkn 3 x with
  | none => (1, 0, S)
  | some c => match S.2.2.1 c with
    | none => (3, 0, S)
    | some (b, k, n, t) => if k ≠ 2 then (2, 0, S) else if b = 3 ∨ t = false then (3, 0, S) else
      (0, vf (S.1 b) (n - 1), clB (upB S b (sv (S.1 b) (n - 1) v)) b (nI c))
def sp_bookOf (S : St) (x : Int32) : Nat × Int32 × St := match bkn 3 x with
  | none => (1, 0, S)
  | some c => match S.2.2.1 c with
    | none => (0, -1, S)
    | some (b, _, _, _) => (0, nI b, S)
/-- a question to a book -/
def askB {α : Type} (S : St) (x : Int32) (z : α) (f : Bk → α) : Nat × α × St := match bkn 4 x with
  | none => (1, z, S)
  | some b => (0, f (S.1 b), S)
def sp_size (S : St) (x : Int32) : Nat × Int32 × St := askB S x 0 (fun L => nI L.length)
def sp_hasKey (S : St) (x key : Int32) : Nat × Bool × St := askB S x false (fun L => (fx L key).isSome)
def sp_hasValue (S : St) (x v : Int32) : Nat × Bool × St := askB S x false (fun L => hasV L v)
def sp_get (S : St) (x key or_ : Int32) : Nat × Int32 × St := askB S x 0 (fun L => match fx L key with | none => or_ | some i => vf L i)
/-- a question to a place -/
def askP (S : St) (x y : Int32) (f : Bk → Nat → Int32) : Nat × Int32 × St := match bkn 4 x with
  | none => (1, 0, S)
  | some b => match bkn (S.1 b).length y with
    | none => (1, 0, S)
    | some j => (0, f (S.1 b) j, S)
def sp_keyAt (S : St) (x y : Int32) : Nat × Int32 × St := askP S x y kf
def sp_valueAt (S : St) (x y : Int32) : Nat × Int32 × St := askP S x y vf
def sp_placeOf (S : St) (x key : Int32) : Nat × Int32 × St := askB S x 0 (fun L => oI (fx L key))
/-- a question to two books -/
def ask2 (S : St) (x y : Int32) (f : Bk → Bk → Bool) : Nat × Bool × St := match bkn 4 x, bkn 4 y with
  | some b, some o => (0, f (S.1 b) (S.1 o), S)
  | _, _ => (1, false, S)
def sp_areEqual (S : St) (x y : Int32) : Nat × Bool × St := ask2 S x y eqB
def sp_areAlike (S : St) (x y : Int32) : Nat × Bool × St := ask2 S x y alB
def sp_hash (S : St) (x : Int32) : Nat × Int32 × St := askB S x 0 (fun L => hsL L L.length)
def smL (L : Bk) : Nat → Int64
  | 0 => lN 0
  | n + 1 => smL L n + lN (n + 1) * (Int32.toInt64 (kf L n) + lN 3 * Int32.toInt64 (vf L n))
def sp_sum (S : St) (x : Int32) : Nat × Int64 × St := askB S x (lN 0) (fun L => smL L L.length)
/-- a book as it is written, n pairs of it -/
def wrA (L : Bk) : Nat → List Int32
  | 0 => [nI 123]
  | n + 1 => wrA L n ++ (if n = 0 then [] else [nI 44, nI 32]) ++ decI (kf L n) ++ [nI 61] ++ decI (vf L n)
def wrL (L : Bk) : List Int32 := wrA L L.length ++ [nI 125]
def sp_write (S : St) (x : Int32) : Nat × Int32 × St := match bkn 4 x with
  | none => (1, 0, S)
  | some b => (0, nI (wrL (S.1 b)).length, (S.1, S.2.1, S.2.2.1, wrL (S.1 b)))
def sp_outputAt (S : St) (x : Int32) : Nat × Int32 × St := match bkn S.2.2.2.length x with
  | none => (1, 0, S)
  | some j => (0, S.2.2.2[j]?.getD 0, S)
def sp_isAddRefused (S : St) (x y : Int32) : Nat × Bool × St := match bkn 4 x with
  | none => (1, false, S)
  | some _ => match bkn 3 y with
    | none => (2, false, S)
    | some _ => (0, true, S)
def sp_isNothingRefused (S : St) (x y : Int32) : Nat × Bool × St := match bkn 4 x with
  | none => (1, false, S)
  | some b => if 2 ≤ b then (2, false, S) else (0, true, S)
def mnL (L : Bk) : Nat → Int64
  | 0 => lN 0
  | n + 1 => mnL L n + Int32.toInt64 (vf L n)
def meanL (L : Bk) : UInt64 := if L.length = 0 then 0 else FP.ddiv (FP.l2d (mnL L L.length)) (FP.i2d (nI L.length))
def sp_mean (S : St) (x : Int32) : Nat × UInt64 × St := askB S x 0 meanL
def fullS (S : St) : UInt32 := FP.fdiv (FP.i2f (nI (S.1 2).length)) (FP.i2f (nI S.2.1))
/-- what holds of the state between calls -/
def CuOk (S : St) (x : Cu) : Prop := match x with
  | none => True
  | some (b, k, n, t) => b < 4 ∧ k < 3 ∧ n ≤ (S.1 b).length ∧ (t = true → 1 ≤ n)
def Inv (S : St) : Prop := (∀ b, b < 4 → ND (S.1 b) ∧ (S.1 b).length ≤ 200) ∧ (S.1 2).length ≤ S.2.1 ∧ 1 ≤ S.2.1 ∧ S.2.1 ≤ 40 ∧ (∀ c, c < 3 → CuOk S (S.2.2.1 c)) ∧ S.2.2.2.length ≤ 5000
