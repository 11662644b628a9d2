/-! ===== Inv is kept ===== -/
theorem bkn_lt {n : Nat} {x : Int32} {b : Nat} (h : bkn n x = some b) (hn : n < 2 ^ 31) : b < n := by
  rcases bkn_cases n hn x with ⟨j, hj, -, e⟩ | ⟨e, -⟩
  · rw [h] at e; cases e; exact hj
  · rw [h] at e; cases e
theorem CuOk.up {S T : St} {x : Cu} (h : CuOk S x) (hh : ∀ b k n t, x = some (b, k, n, t) → n ≤ (T.1 b).length) : CuOk T x := by
  match x, h, hh with
  | none, _, _ => exact trivial
  | some (b, k, n, t), h, hh => exact ⟨h.1, h.2.1, hh b k n t rfl, h.2.2.2⟩
section IV
variable {S : St}
theorem inv_upcl (hI : Inv S) {b : Nat} (hb : b < 4) {L : Bk} (hND : ND L) (hl : L.length ≤ 200) (h2 : b = 2 → L.length ≤ S.2.1) (but : Int32) (hbut : ∀ c, c < 3 → nI c = but → ∀ k n t, S.2.2.1 c = some (b, k, n, t) → n ≤ L.length) : Inv (clB (upB S b L) b but) := by
  obtain ⟨g1, g2, g3, g4, g5, g6⟩ := hI
  refine ⟨fun o ho => ?_, ?_, g3, g4, fun c hc => ?_, g6⟩
  · show ND (va_up S.1 b L o) ∧ (va_up S.1 b L o).length ≤ 200
    rw [up_at]
    split
    · exact ⟨hND, hl⟩
    · exact g1 o ho
  · show (va_up S.1 b L 2).length ≤ S.2.1
    rw [up_at]
    split
    · rename_i e; exact h2 e.symm
    · exact g2
  · show CuOk (clB (upB S b L) b but) (clo S.2.2.1 b but c)
    rw [clo_cases]
    have h := g5 c hc
    cases hC : S.2.2.1 c with
    | none => exact trivial
    | some y =>
      obtain ⟨o, k, n, t⟩ := y
      rw [hC] at h
      show CuOk _ (if o = b ∧ nI c ≠ but then none else some (o, k, n, t))
      by_cases e : o = b ∧ nI c ≠ but
      · rw [if_pos e]; exact trivial
      · rw [if_neg e]
        refine ⟨h.1, h.2.1, ?_, h.2.2.2⟩
        show n ≤ (va_up S.1 b L o).length
        rw [up_at]
        by_cases e2 : o = b
        · rw [if_pos e2]
          subst e2
          exact hbut c hc (Decidable.of_not_not (fun z => e ⟨rfl, z⟩)) k n t hC
        · rw [if_neg e2]; exact h.2.2.1
theorem inv_up (hI : Inv S) {b : Nat} (hb : b < 4) {L : Bk} (hND : ND L) (hl : L.length ≤ 200) (h2 : b = 2 → L.length ≤ S.2.1) : Inv (clB (upB S b L) b (-1)) := inv_upcl hI hb hND hl h2 (-1) (fun c hc e => absurd e (by
  intro z
  rw [← Int32.toInt_inj, nI_toInt (by omega)] at z
  have e1 : (-1 : Int32).toInt = -1 := by decide
  omega))
theorem inv_cl (hI : Inv S) {b : Nat} (hb : b < 4) : Inv (clB S b (-1)) := by
  have h := inv_up hI hb (hI.1 b hb).1 (hI.1 b hb).2 (fun e => by subst e; exact hI.2.1)
  rw [upB_id] at h
  exact h
theorem inv_sm (hI : Inv S) {b : Nat} (hb : b < 4) {L : Bk} (hND : ND L) (hl : L.length ≤ (S.1 b).length) : Inv (clB (upB S b L) b (-1)) := inv_up hI hb hND (Nat.le_trans hl (hI.1 b hb).2) (fun e => by subst e; exact Nat.le_trans hl hI.2.1)
theorem inv_sv (hI : Inv S) {b : Nat} (hb : b < 4) (i : Nat) (y : Int32) : Inv (clB (upB S b (sv (S.1 b) i y)) b (-1)) := inv_sm hI hb (ND_sv (hI.1 b hb).1 i y) (by rw [sv_len]; exact Nat.le_refl _)
theorem inv_era (hI : Inv S) {b : Nat} (hb : b < 4) {i : Nat} (hi : i < (S.1 b).length) : Inv (clB (upB S b ((S.1 b).eraseIdx i)) b (-1)) := inv_sm hI hb (ND_era (hI.1 b hb).1 hi) (by rw [era_len hi]; omega)
theorem inv_app (hI : Inv S) {b : Nat} (hb : b < 4) (h2 : b ≠ 2) {key y : Int32} (hfu : full S b key = false) (hf : fx (S.1 b) key = none) : Inv (clB (upB S b (S.1 b ++ [(key, y)])) b (-1)) := by
  have h := full_room hI hb hfu hf h2
  exact inv_up hI hb (ND_app (hI.1 b hb).1 hf) (by rw [app_len]; omega) (fun e => absurd e h2)
theorem inv_stC (hI : Inv S) {c : Nat} {x : Cu} (hx : CuOk S x) : Inv (stC S c x) := by
  obtain ⟨g1, g2, g3, g4, g5, g6⟩ := hI
  refine ⟨g1, g2, g3, g4, fun d hd => ?_, g6⟩
  show CuOk (stC S c x) (va_up S.2.2.1 c x d)
  rw [up_at]
  split
  · exact hx.up (fun b k n t e => by subst e; exact hx.2.2.1)
  · exact (g5 d hd).up (fun b k n t e => by have h := g5 d hd; rw [e] at h; exact h.2.2.1)
theorem nfull {b : Nat} {key : Int32} (h : ¬ full S b key = true) : full S b key = false := by
  cases h2 : full S b key with
  | true => exact absurd h2 h
  | false => rfl
theorem inv_put (x key v : Int32) (hI : Inv S) : Inv (sp_put S x key v).2.2 := by
  unfold sp_put
  split
  · exact hI
  · rename_i b hb
    have hb4 := bkn_lt hb (by decide)
    split
    · exact hI
    · split
      · exact hI
      · rename_i h3 hfu
        refine inv_up hI hb4 (stq_ND (hI.1 b hb4).1) ?_ (fun e => by subst e; exact stq_len_b _ _ hI.2.1)
        by_cases e : b = 2
        · subst e
          have h := stq_len_b key v hI.2.1
          have h4 := hI.2.2.2.1
          exact Nat.le_trans h (by omega)
        · cases hf : fx (S.1 b) key with
          | none =>
            have h := full_room hI hb4 (nfull hfu) hf e
            have h5 := stq_len (lgO b) S.2.1 (S.1 b) key v
            omega
          | some i => rw [stq_at hf, sv_len]; exact (hI.1 b hb4).2
theorem inv_putNew (x key v : Int32) (hI : Inv S) : Inv (sp_putNew S x key v).2.2 := by
  unfold sp_putNew
  split
  · exact hI
  · rename_i b hb
    have hb4 := bkn_lt hb (by decide)
    split
    · exact hI
    · split
      · exact hI
      · rename_i h2 hfu
        split
        · rename_i hf; exact inv_app hI hb4 (by omega) (nfull hfu) hf
        · exact inv_cl hI hb4
theorem inv_add (x key v : Int32) (hI : Inv S) : Inv (sp_add S x key v).2.2 := by
  unfold sp_add
  split
  · exact hI
  · rename_i b hb
    have hb4 := bkn_lt hb (by decide)
    split
    · exact hI
    · split
      · exact hI
      · rename_i h2 hfu
        split
        · rename_i hf; exact inv_app hI hb4 (by omega) (nfull hfu) hf
        · exact inv_sv hI hb4 _ _
theorem inv_halve (x key : Int32) (hI : Inv S) : Inv (sp_halve S x key).2.2 := by
  unfold sp_halve
  split
  · exact hI
  · rename_i b hb
    have hb4 := bkn_lt hb (by decide)
    split
    · exact hI
    · split
      · exact inv_cl hI hb4
      · rename_i i hf
        split
        · exact inv_era hI hb4 (fx_some hf).1
        · exact inv_sv hI hb4 _ _
theorem inv_addToAll (x v : Int32) (hI : Inv S) : Inv (sp_addToAll S x v).2.2 := by
  unfold sp_addToAll
  split
  · exact hI
  · rename_i b hb
    have hb4 := bkn_lt hb (by decide)
    split
    · exact hI
    · exact inv_sm hI hb4 (adA_ND (hI.1 b hb4).1 v _) (by rw [adA_len]; exact Nat.le_refl _)
theorem inv_replace (x key v : Int32) (hI : Inv S) : Inv (sp_replace S x key v).2.2 := by
  unfold sp_replace
  split
  · exact hI
  · rename_i b hb
    have hb4 := bkn_lt hb (by decide)
    split
    · exact hI
    · split
      · exact inv_cl hI hb4
      · exact inv_sv hI hb4 _ _
theorem inv_remove (x key : Int32) (hI : Inv S) : Inv (sp_remove S x key).2.2 := by
  unfold sp_remove
  split
  · exact hI
  · rename_i b hb
    have hb4 := bkn_lt hb (by decide)
    split
    · exact hI
    · split
      · exact hI
      · rename_i i hf; exact inv_era hI hb4 (fx_some hf).1
theorem inv_removePair (x key v : Int32) (hI : Inv S) : Inv (sp_removePair S x key v).2.2 := by
  unfold sp_removePair
  split
  · exact hI
  · rename_i b hb
    have hb4 := bkn_lt hb (by decide)
    split
    · exact hI
    · split
      · exact inv_cl hI hb4
      · rename_i i hf
        split
        · exact inv_era hI hb4 (fx_some hf).1
        · exact inv_cl hI hb4
theorem inv_fill (x f s many : Int32) (hI : Inv S) : Inv (sp_fill S x f s many).2.2 := by
  unfold sp_fill
  split
  · exact hI
  · rename_i b hb
    have hb4 := bkn_lt hb (by decide)
    split
    · exact hI
    · rename_i n hn
      have hn6 := bkn_lt hn (by decide)
      split
      · exact hI
      · split
        · exact hI
        · rename_i h3 hov
          refine inv_up hI hb4 (fiA_ND f s (hI.1 b hb4).1 n) ?_ (fun e => by subst e; exact fiA_len_b f s hI.2.1 n)
          by_cases e : b = 2
          · subst e
            have h := fiA_len_b f s hI.2.1 n
            have h4 := hI.2.2.2.1
            exact Nat.le_trans h (by omega)
          · have h := fiA_len (lgO b) S.2.1 (S.1 b) f s n
            omega
theorem inv_pour (x y : Int32) (hI : Inv S) : Inv (sp_pour S x y).2.2 := by
  unfold sp_pour
  split
  · rename_i b o hb ho
    have hb4 := bkn_lt hb (by decide)
    have ho4 := bkn_lt ho (by decide)
    split
    · exact hI
    · split
      · exact hI
      · rename_i h3 hov
        refine inv_up hI ho4 (stF_ND (S.1 b) (hI.1 o ho4).1 _) ?_ (fun e => by subst e; exact stF_len_b (S.1 b) hI.2.1 _)
        by_cases e : o = 2
        · subst e
          have h := stF_len_b (S.1 b) hI.2.1 (S.1 b).length
          have h4 := hI.2.2.2.1
          exact Nat.le_trans h (by omega)
        · have h := (stF_in (bd := S.2.1) (L := S.1 o) (hI.1 b hb4).1 (S.1 b).length (Nat.le_refl _)).1
          rw [show lgO o = false from decide_eq_false e, h]
          omega
  · exact hI
theorem inv_copy (x y : Int32) (hI : Inv S) : Inv (sp_copy S x y).2.2 := by
  unfold sp_copy
  split
  · rename_i b o hb ho
    have hb4 := bkn_lt hb (by decide)
    have ho4 := bkn_lt ho (by decide)
    split
    · exact hI
    · exact inv_up hI ho4 (hI.1 b hb4).1 (hI.1 b hb4).2 (fun e => by omega)
  · exact hI
theorem inv_clear (x : Int32) (hI : Inv S) : Inv (sp_clear S x).2.2 := by
  unfold sp_clear
  split
  · exact hI
  · rename_i b hb
    have hb4 := bkn_lt hb (by decide)
    split
    · exact hI
    · exact inv_sm hI hb4 ND_nil (Nat.zero_le _)
theorem inv_offer (x : Int32) (hI : Inv S) : Inv (sp_offer S x).2.2 := by
  unfold sp_offer
  split
  · exact hI
  · rename_i hfu
    split
    · rename_i hf; exact inv_app hI (by decide) (by decide) (nfull hfu) hf
    · exact inv_sv hI (by decide) _ _
theorem inv_poll (hI : Inv S) : Inv (sp_poll S).2.2 := by
  unfold sp_poll
  split
  · exact hI
  · exact inv_era hI (by decide) (by omega)
theorem inv_toEnd (x : Int32) (hI : Inv S) : Inv (sp_toEnd S x).2.2 := by
  unfold sp_toEnd
  split
  · exact hI
  · rename_i i hf
    have hi := (fx_some hf).1
    have hk := (fx_some hf).2.1
    have hN := hI.1 3 (by decide)
    refine inv_sm hI (by decide) (ND_app (ND_era hN.1 hi) ?_) (by rw [app_len, era_len hi]; omega)
    rw [← hk]
    exact fx_era hN.1 hi
theorem inv_rebind (x : Int32) (hI : Inv S) : Inv (sp_rebind S x).2.2 := by
  unfold sp_rebind
  split
  · rename_i hx
    have h := inv_sm hI (b := 2) (by decide) ND_nil (Nat.zero_le _)
    have h1 := hx.1
    have h2 := hx.2
    rw [i_le] at h1 h2
    have e1 : (1 : Int32).toInt = 1 := by decide
    have e2 : (40 : Int32).toInt = 40 := by decide
    have e3 : x.toNatClampNeg = x.toInt.toNat := rfl
    obtain ⟨g1, g2, g3, g4, g5, g6⟩ := h
    refine ⟨g1, ?_, ?_, ?_, fun c hc => (g5 c hc).up (fun b k n t e => ?_), g6⟩
    · show (va_up S.1 2 [] 2).length ≤ _
      exact Nat.zero_le _
    · show 1 ≤ x.toNatClampNeg
      omega
    · show x.toNatClampNeg ≤ 40
      omega
    · have h := g5 c hc
      rw [show (clB (upB S 2 []) 2 (-1)).2.2.1 c = some (b, k, n, t) from e] at h
      exact h.2.2.1
  · exact hI
theorem inv_open (x y z : Int32) (hI : Inv S) : Inv (sp_open S x y z).2.2 := by
  unfold sp_open
  split
  · rename_i c b hc hb
    split
    · exact hI
    · rename_i k hk
      exact inv_stC hI ⟨bkn_lt hb (by decide), bkn_lt hk (by decide), Nat.zero_le _, fun h => by cases h⟩
  · exact hI
theorem inv_next (x : Int32) (hI : Inv S) : Inv (sp_next S x).2.2 := by
  unfold sp_next
  split
  · exact hI
  · rename_i c hc
    have h := hI.2.2.2.2.1 c (bkn_lt hc (by decide))
    split
    · exact hI
    · rename_i b k n t hC
      rw [hC] at h
      split
      · rename_i hlt
        exact inv_stC hI ⟨h.1, h.2.1, hlt, fun _ => Nat.succ_le_succ (Nat.zero_le _)⟩
      · exact hI
theorem inv_removeAt (x : Int32) (hI : Inv S) : Inv (sp_removeAt S x).2.2 := by
  unfold sp_removeAt
  split
  · exact hI
  · rename_i c hc
    have hc3 := bkn_lt hc (by decide)
    have h := hI.2.2.2.2.1 c hc3
    split
    · exact hI
    · rename_i b k n t hC
      rw [hC] at h
      split
      · exact hI
      · rename_i h3
        have ht : t = true := by
          cases t with
          | true => rfl
          | false => exact absurd (Or.inr rfl) h3
        have hn := h.2.2.2 ht
        have hnl := h.2.2.1
        have h0 : Inv (stC S c (some (b, k, n - 1, false))) := inv_stC hI ⟨h.1, h.2.1, by omega, fun z => by cases z⟩
        have hN := hI.1 b h.1
        have hi : n - 1 < (S.1 b).length := by omega
        refine inv_upcl (S := stC S c (some (b, k, n - 1, false))) h0 h.1 (ND_era hN.1 hi) (by rw [era_len hi]; have := hN.2; omega) (fun e => ?_) (nI c) (fun d hd e k2 n2 t2 hC2 => ?_)
        · subst e
          rw [era_len hi]
          have := hI.2.1
          show _ ≤ S.2.1
          omega
        · have ed : d = c := (nI_eq (by omega) (by omega)).mp e
          subst ed
          have hC3 : va_up S.2.2.1 d (some (b, k, n - 1, false)) d = some (b, k2, n2, t2) := hC2
          rw [up_at, if_pos rfl] at hC3
          cases hC3
          rw [era_len hi]
          omega
theorem inv_setAt (x v : Int32) (hI : Inv S) : Inv (sp_setAt S x v).2.2 := by
  unfold sp_setAt
  split
  · exact hI
  · rename_i c hc
    have hc3 := bkn_lt hc (by decide)
    have h := hI.2.2.2.2.1 c hc3
    split
    · exact hI
    · rename_i b k n t hC
      rw [hC] at h
      split
      · exact hI
      · split
        · exact hI
        · have hN := hI.1 b h.1
          refine inv_upcl hI h.1 (ND_sv hN.1 _ _) (by rw [sv_len]; exact hN.2) (fun e => by subst e; rw [sv_len]; exact hI.2.1) (nI c) (fun d hd e k2 n2 t2 hC2 => ?_)
          have h6 := hI.2.2.2.2.1 d hd
          rw [hC2] at h6
          rw [sv_len]
          exact h6.2.2.1
theorem inv_write (x : Int32) (hI : Inv S) : Inv (sp_write S x).2.2 := by
  unfold sp_write
  split
  · exact hI
  · rename_i b hb
    have hN := hI.1 b (bkn_lt hb (by decide))
    obtain ⟨g1, g2, g3, g4, g5, g6⟩ := hI
    exact ⟨g1, g2, g3, g4, fun c hc => (g5 c hc).up (fun o k n t e => by have h := g5 c hc; rw [show S.2.2.1 c = some (o, k, n, t) from e] at h; exact h.2.2.1), wrL_len hN.2⟩
end IV
