/-! ===== the law: what its actions mean; what holds of all texts ===== -/
theorem fnd_none : ∀ (rs : RR) (s : List Int32), fnd rs s = rs.length → ∀ i, i < rs.length → (rs.getD i ([], 0)).1 ≠ s := by
  intro rs s
  induction rs with
  | nil => intro _ i hi; cases hi
  | cons q t ih =>
    intro h i hi
    by_cases hq : q.1 = s
    · rw [show fnd (q :: t) s = 0 from if_pos hq] at h; cases h
    · rw [fnd_no hq] at h
      simp only [List.length_cons] at h hi
      cases i with
      | zero => exact hq
      | succ i => exact ih (by omega) i (by omega)
theorem ndR_grow {rs : RR} (h : ndR rs) (s : List Int32) (z : Int32) : ndR (growR rs s z) := by
  unfold growR
  by_cases h20 : 20 ≤ fnd rs s
  · rw [if_pos h20]; exact h
  · rw [if_neg h20]
    have hle := fnd_le rs s
    have key : ∀ i, i < (grwF rs s).length → (((grwF rs s).set (fnd rs s) (s, fitI ((sumAt rs s).toInt64 + z.toInt64))).getD i ([], 0)).1 = if i = fnd rs s then s else (rs.getD i ([], 0)).1 := fun i hi => by
      by_cases hif : i = fnd rs s
      · subst hif; rw [if_pos rfl]; simp [List.getD_eq_getElem?_getD, hi]
      · rw [if_neg hif]
        have e1 : ((grwF rs s).set (fnd rs s) (s, fitI ((sumAt rs s).toInt64 + z.toInt64))).getD i ([], 0) = (grwF rs s).getD i ([], 0) := by simp [List.getD_eq_getElem?_getD, List.getElem?_set_ne (Ne.symm hif)]
        rw [e1]
        unfold grwF at hi ⊢
        split
        · rename_i hf
          rw [if_pos hf] at hi
          simp at hi
          rw [getD_app1 (by omega)]
        · rfl
    have hno : ∀ i, i < (grwF rs s).length → i ≠ fnd rs s → i < rs.length ∧ (rs.getD i ([], 0)).1 ≠ s := fun i hi hif => by
      unfold grwF at hi
      by_cases hf : fnd rs s = rs.length
      · rw [if_pos hf] at hi
        simp at hi
        exact ⟨by omega, fnd_none rs s hf i (by omega)⟩
      · rw [if_neg hf] at hi
        exact ⟨hi, fun y => hif (h i _ hi (by omega) (y.trans (fnd_name rs s (by omega)).symm))⟩
    intro i j hi hj hij
    rw [List.length_set] at hi hj
    rw [key i hi, key j hj] at hij
    by_cases hi1 : i = fnd rs s
    · by_cases hj1 : j = fnd rs s
      · omega
      · rw [if_pos hi1, if_neg hj1] at hij; exact absurd hij.symm (hno j hj hj1).2
    · by_cases hj1 : j = fnd rs s
      · rw [if_neg hi1, if_pos hj1] at hij; exact absurd hij (hno i hi hi1).2
      · rw [if_neg hi1, if_neg hj1] at hij; exact h i j (hno i hi hi1).1 (hno j hj hj1).1 hij
theorem ndR_drop {rs : RR} (h : ndR rs) (s : List Int32) : ndR (dropR rs s) := by
  unfold dropR
  by_cases hf : fnd rs s < rs.length
  · have hl : (rs.eraseIdx (fnd rs s)).length = rs.length - 1 := by rw [List.length_eraseIdx, if_pos hf]
    have e0 : ∀ i, (rs.eraseIdx (fnd rs s)).getD i ([], 0) = rs.getD (if i < fnd rs s then i else i + 1) ([], 0) := fun i => by
      simp only [List.getD_eq_getElem?_getD]
      rw [List.getElem?_eraseIdx]
      by_cases hif : i < fnd rs s
      · rw [if_pos hif, if_pos hif]
      · rw [if_neg hif, if_neg hif]
    intro i j hi hj hij
    rw [hl] at hi hj
    rw [e0, e0] at hij
    have := h _ _ (by split <;> omega) (by split <;> omega) hij
    split at this <;> split at this <;> omega
  · rw [List.eraseIdx_of_length_le (by omega)]; exact h
/-- separator, record number, typed, (record, rows, lines, faults), rules -/
abbrev aS : Type := Int32 × Int32 × List Int32 × WS × List Rl
def fI (z0 : Nat) (cI cO cT cR : ClassId) (a na : Nat → Nat) (x : fS) (S : aS) : Prop := ∃ stk lab lf, wI x.1 x.2 cT cR a na lab S.1 S.2.1 S.2.2.1 stk S.2.2.2.1 ∧ labI a lab ∧ rI x.1 x.2 z0 cI cO lab lf (a 1) S.2.2.2.2
/-- an answer: its number (0: none thrown), the value, the state then -/
abbrev oR : Type := Int32 × Int32 × aS
def opRule (S : aS) (pat a b : Int32) : oR := if isPat pat a b = true then (if S.2.2.2.2.length < 8 then (0, nI S.2.2.2.2.length, (S.1, S.2.1, S.2.2.1, S.2.2.2.1, S.2.2.2.2 ++ [((pat, a, b), false, [])])) else (2, 0, S)) else (1, 0, S)
def opAct (S : aS) (z kd fd op x0 y0 : Int32) : oR := if 0 ≤ z ∧ z < nI S.2.2.2.2.length then (if isAc (kd, fd, op, x0, y0) = true then (if (S.2.2.2.2.getD z.toNatClampNeg rl0).2.2.length < 6 then (0, nI ((S.2.2.2.2.getD z.toNatClampNeg rl0).2.2.length + 1), (S.1, S.2.1, S.2.2.1, S.2.2.2.1, actR S.2.2.2.2 z.toNatClampNeg (kd, fd, op, x0, y0))) else (3, 0, S)) else (2, 0, S)) else (1, 0, S)
def opSep (S : aS) (z : Int32) : oR := if isCd z = true then (0, nI (nfd (sgn z) S.2.2.2.1.1), (sgn z, S.2.1, S.2.2.1, S.2.2.2.1, S.2.2.2.2)) else (1, 0, S)
def opType (S : aS) (z : Int32) : oR := if isCd z = true then (if S.2.2.1.length < 60 then (0, nI (S.2.2.1.length + 1), (S.1, S.2.1, S.2.2.1 ++ [sgn z], S.2.2.2.1, S.2.2.2.2)) else (2, 0, S)) else (1, 0, S)
def opSetF (S : aS) (z n0 : Int32) : oR := if isFd z = true then (0, nI (nfd S.1 (setR S.1 S.2.2.2.1.1 z.toNatClampNeg (dec n0))), (S.1, S.2.1, S.2.2.1, (setR S.1 S.2.2.2.1.1 z.toNatClampNeg (dec n0), S.2.2.2.1.2), S.2.2.2.2)) else (1, 0, S)
def opNum (S : aS) (z : Int32) : oR := if isFd z = true then (0, num (fld S.1 S.2.2.2.1.1 z.toNatClampNeg), S) else (1, 0, S)
def opChar (S : aS) (z p0 : Int32) : oR := if isFd z = true ∧ 0 ≤ p0 ∧ p0 < nI (fld S.1 S.2.2.2.1.1 z.toNatClampNeg).length then (0, atT (fld S.1 S.2.2.2.1.1 z.toNatClampNeg) p0, S) else (1, 0, S)
def opRow (S : aS) (z : Int32) : oR := if 0 ≤ z ∧ z < nI S.2.2.2.1.2.1.length then (0, (S.2.2.2.1.2.1.getD z.toNatClampNeg ([], 0)).2, S) else (1, 0, S)
def opKey (S : aS) (z p0 : Int32) : oR := if (0 ≤ z ∧ z < nI S.2.2.2.1.2.1.length) ∧ 0 ≤ p0 ∧ p0 < nI (S.2.2.2.1.2.1.getD z.toNatClampNeg ([], 0)).1.length then (0, atT (S.2.2.2.1.2.1.getD z.toNatClampNeg ([], 0)).1 p0, S) else (1, 0, S)
def opLine (S : aS) (z p0 : Int32) : oR := if (0 ≤ z ∧ z < nI S.2.2.2.1.2.2.1.length) ∧ 0 ≤ p0 ∧ p0 < nI (S.2.2.2.1.2.2.1.getD z.toNatClampNeg []).length then (0, atT (S.2.2.2.1.2.2.1.getD z.toNatClampNeg []) p0, S) else (1, 0, S)
def opEnd (S : aS) : oR := (0, (rulesS S.1 (S.2.1 + 1) S.2.2.2.2 0 (S.2.2.1, S.2.2.2.1.2) 0).1, (S.1, S.2.1 + 1, [], (rulesS S.1 (S.2.1 + 1) S.2.2.2.2 0 (S.2.2.1, S.2.2.2.1.2) 0).2.2, (rulesS S.1 (S.2.1 + 1) S.2.2.2.2 0 (S.2.2.1, S.2.2.2.1.2) 0).2.1))
def opVal (S : aS) (v : Int32) : oR := (0, v, S)

theorem oks_nil : oks [] := fun _ h => by cases h
theorem oks_put60 {s : List Int32} {c : Int32} (h : oks s) (hc : c ∈ alph) : oks (put60 s c) := by
  unfold put60
  split
  · exact oks_app h (fun x hx => by rw [List.mem_singleton.mp hx]; exact hc)
  · exact h
theorem oks_app60 {s t : List Int32} (h : oks s) (ht : oks t) : oks (app60 s t) := oks_take (oks_app h ht) 60
theorem dig_al (n k : Nat) : dig n k ∈ alph := by
  unfold alph
  exact List.mem_cons_of_mem _ (List.mem_cons_of_mem _ (List.mem_cons_of_mem _ (List.mem_append_left _ (List.mem_map.mpr ⟨n / 10 ^ k % 10, List.mem_range.mpr (Nat.mod_lt _ (by decide)), rfl⟩))))
theorem oks_dl (n k : Nat) : oks (dl n k) := by
  induction k with
  | zero => exact oks_nil
  | succ k ih =>
    intro c hc
    rcases List.mem_cons.mp hc with h | h
    · rw [h]; exact dig_al n k
    · exact ih c h
theorem oks_dec (x : Int32) : oks (dec x) := by
  unfold dec
  split
  · intro c hc
    rcases List.mem_cons.mp hc with h | h
    · rw [h]; decide
    · exact oks_dl _ _ c h
  · exact oks_dl _ _
theorem oks_join {sep : Int32} {F : Nat → List Int32} (hs : sep ∈ alph) (hF : ∀ i, oks (F i)) (m : Nat) : oks (joinG sep F m) := by
  induction m with
  | zero => exact oks_nil
  | succ m ih =>
    show oks (app60 (if m = 0 then [] else put60 (joinG sep F m) sep) (F (m + 1)))
    refine oks_app60 ?_ (hF _)
    split
    · exact oks_nil
    · exact oks_put60 ih hs
theorem oks_setR {sep : Int32} {r v : List Int32} (hs : sep ∈ alph) (hr : oks r) (hv : oks v) (k : Nat) : oks (setR sep r k v) := by
  unfold setR
  split
  · exact hv
  · refine oks_join hs (fun i => ?_) _
    by_cases h : i = k
    · rw [h, va_up_same]; exact hv
    · rw [va_up_other _ _ _ h]; exact oks_fld sep hr i
theorem setR_len {sep : Int32} {r v : List Int32} (hv : v.length ≤ 60) (k : Nat) : (setR sep r k v).length ≤ 60 := by
  unfold setR
  split
  · exact hv
  · obtain ⟨m, hm⟩ : ∃ m, max (nfd sep r) k = m := ⟨_, rfl⟩
    rw [hm]
    cases m with
    | zero => exact Nat.zero_le _
    | succ m => exact app60_len _ _
theorem sgn_al {z : Int32} (h : isCd z = true) : sgn z ∈ alph := by
  obtain ⟨k, hk, rfl⟩ := nI_of2 (M := 37) (n := 37) rfl (Int32.not_lt.mpr (of_decide_eq_true ((Bool.and_eq_true _ _).mp h).1)) (of_decide_eq_true ((Bool.and_eq_true _ _).mp h).2)
  have hA : ∀ k : Fin 38, sgn (nI k.val) ∈ alph := by decide +kernel
  exact hA ⟨k, by omega⟩
theorem oks_opT {sep : Int32} {r : List Int32} (hr : oks r) (rnum x : Int32) : oks (opT sep r rnum x) := by
  unfold opT
  split
  · split
    · exact oks_dec _
    · split
      · exact oks_dec _
      · exact oks_fld sep hr _
  · exact oks_dec _
theorem oks_exV {sep : Int32} {r : List Int32} (hr : oks r) (rnum op x y : Int32) : oks (exV sep r rnum op x y) := by
  unfold exV exT
  split
  · exact oks_opT hr _ _
  · split
    · exact oks_app60 (oks_opT hr _ _) (oks_opT hr _ _)
    · exact oks_dec _
theorem exV_len {sep : Int32} {r : List Int32} {rnum op x y : Int32} (h60 : r.length ≤ 60) (hn : ∃ N, N < 1000000000 ∧ rnum = nI N) (hx : okOp x) : (exV sep r rnum op x y).length ≤ 60 := by
  unfold exV exT
  split
  · exact opT_len h60 hn hx
  · split
    · exact app60_len _ _
    · exact Nat.le_trans (dec_len _) (by decide)
theorem okR_iff {rs : RR} : okR rs ↔ ∀ q ∈ rs, oks q.1 ∧ q.1.length ≤ 60 := by
  unfold okR
  constructor
  · intro h q hq
    obtain ⟨i, hi, e⟩ := List.getElem_of_mem hq
    have := h i hi
    rw [List.getD_eq_getElem?_getD, List.getElem?_eq_getElem hi, e] at this
    exact this
  · intro h i hi
    rw [List.getD_eq_getElem?_getD, List.getElem?_eq_getElem hi]
    exact h _ (List.getElem_mem hi)
def okL (ls : List (List Int32)) : Prop := ∀ s ∈ ls, oks s ∧ s.length ≤ 60
def okW (w : WS) : Prop := oks w.1 ∧ w.1.length ≤ 60 ∧ okR w.2.1 ∧ ndR w.2.1 ∧ okL w.2.2.1
theorem fld_len {sep : Int32} {r : List Int32} (h : r.length ≤ 60) (k : Nat) : (fld sep r k).length ≤ 60 := by
  have hs := eS sep r k
  rw [str_len hs]
  have := hs.2.1
  omega
theorem okW_act {sep rnum : Int32} {w : WS} {c : Ac} (hw : okW w) (hs : sep ∈ alph) (hn : ∃ N, N < 1000000000 ∧ rnum = nI N) (hc : okA c) : okW (actS sep rnum w c) := by
  obtain ⟨h1, h2, h3, h4, h5⟩ := hw
  have hv := oks_exV (sep := sep) h1 rnum c.2.2.1 c.2.2.2.1 c.2.2.2.2
  have hl := exV_len (sep := sep) (rnum := rnum) (op := c.2.2.1) (y := c.2.2.2.2) h2 hn hc.2.2.2.1
  have hf := oks_fld sep h1 c.2.1.toNatClampNeg
  have hfl := fld_len (sep := sep) h2 c.2.1.toNatClampNeg
  unfold actS
  split
  · exact ⟨h1, h2, okR_iff.mpr (fun q hq => okR_iff.mp h3 q (List.mem_of_mem_eraseIdx hq)), ndR_drop h4 _, h5⟩
  · split
    · exact ⟨oks_setR hs h1 hv _, setR_len hl _, h3, h4, h5⟩
    · split
      · refine ⟨h1, h2, okR_iff.mpr (fun q hq => ?_), ndR_grow h4 _ _, h5⟩
        dsimp only at hq
        unfold growR at hq
        split at hq
        · exact okR_iff.mp h3 q hq
        · rcases List.mem_or_eq_of_mem_set hq with g | g
          · unfold grwF at g
            split at g
            · rcases List.mem_append.mp g with g | g
              · exact okR_iff.mp h3 q g
              · rw [List.mem_singleton.mp g]; exact ⟨hf, hfl⟩
            · exact okR_iff.mp h3 q g
          · rw [g]; exact ⟨hf, hfl⟩
      · refine ⟨h1, h2, h3, h4, fun s hs' => ?_⟩
        dsimp only at hs'
        unfold addL at hs'
        split at hs'
        · rcases List.mem_append.mp hs' with g | g
          · exact h5 s g
          · rw [List.mem_singleton.mp g]; exact ⟨hv, hl⟩
        · rcases List.mem_append.mp hs' with g | g
          · exact h5 s (List.mem_of_mem_drop g)
          · rw [List.mem_singleton.mp g]; exact ⟨hv, hl⟩
theorem okW_acts {sep rnum : Int32} (hs : sep ∈ alph) (hn : ∃ N, N < 1000000000 ∧ rnum = nI N) : ∀ (cs : List Ac) (w : WS), okW w → (∀ c ∈ cs, okA c) → okW (actsS sep rnum cs w).2 := by
  intro cs
  induction cs with
  | nil => intro w hw _; exact hw
  | cons c t ih =>
    intro w hw hc
    unfold actsS
    split
    · exact hw
    · exact ih _ (okW_act hw hs hn (hc c (by simp))) (fun c' h' => hc c' (List.mem_cons_of_mem _ h'))
theorem okW_rules {sep rnum : Int32} (hs : sep ∈ alph) (hn : ∃ N, N < 1000000000 ∧ rnum = nI N) : ∀ (rls : List Rl) (i : Nat) (w : WS) (tk : Int32), okW w → (∀ R ∈ rls, ∀ c ∈ R.2.2, okA c) → okW (rulesS sep rnum rls i w tk).2.2 := by
  intro rls
  induction rls with
  | nil => intro i w tk hw _; exact hw
  | cons R t ih =>
    intro i w tk hw hc
    have h1 := okW_acts hs hn R.2.2 w hw (hc R (by simp))
    unfold rulesS
    split
    · split
      · exact ih _ _ _ h1 (fun R' h' => hc R' (List.mem_cons_of_mem _ h'))
      · exact h1
    · exact ih _ _ _ hw (fun R' h' => hc R' (List.mem_cons_of_mem _ h'))
theorem rulesS_f {sep rnum : Int32} {R : Rl} {t : List Rl} {i : Nat} {w : WS} {tk : Int32} (h : patB R.1.1 R.1.2.1 R.1.2.2 R.2.1 (fld sep w.1) = false) : rulesS sep rnum (R :: t) i w tk = ((rulesS sep rnum t (i + 1) w tk).1, (R.1, patO R.1.1 R.1.2.1 R.1.2.2 R.2.1 (fld sep w.1), R.2.2) :: (rulesS sep rnum t (i + 1) w tk).2.1, (rulesS sep rnum t (i + 1) w tk).2.2) := by
  conv => lhs; unfold rulesS
  rw [if_neg (by rw [h]; decide)]
theorem rulesS_t {sep rnum : Int32} {R : Rl} {t : List Rl} {i : Nat} {w : WS} {tk : Int32} (h : patB R.1.1 R.1.2.1 R.1.2.2 R.2.1 (fld sep w.1) = true) (h2 : (actsS sep rnum R.2.2 w).1 = true) : rulesS sep rnum (R :: t) i w tk = ((rulesS sep rnum t (i + 1) (actsS sep rnum R.2.2 w).2 (tk ||| (1 <<< (nI i &&& 31)))).1, (R.1, patO R.1.1 R.1.2.1 R.1.2.2 R.2.1 (fld sep w.1), R.2.2) :: (rulesS sep rnum t (i + 1) (actsS sep rnum R.2.2 w).2 (tk ||| (1 <<< (nI i &&& 31)))).2.1, (rulesS sep rnum t (i + 1) (actsS sep rnum R.2.2 w).2 (tk ||| (1 <<< (nI i &&& 31)))).2.2) := by
  conv => lhs; unfold rulesS
  rw [if_pos h, if_pos h2]
theorem rulesS_s {sep rnum : Int32} {R : Rl} {t : List Rl} {i : Nat} {w : WS} {tk : Int32} (h : patB R.1.1 R.1.2.1 R.1.2.2 R.2.1 (fld sep w.1) = true) (h2 : (actsS sep rnum R.2.2 w).1 = false) : rulesS sep rnum (R :: t) i w tk = (tk ||| (1 <<< (nI i &&& 31)), (R.1, patO R.1.1 R.1.2.1 R.1.2.2 R.2.1 (fld sep w.1), R.2.2) :: t, (actsS sep rnum R.2.2 w).2) := by
  conv => lhs; unfold rulesS
  rw [if_pos h, if_neg (by rw [h2]; decide)]
/-! the law's arrays and the state -/
def nRl (X : Nat → Nat → Int32) (Y : Nat → Nat → Int64) (i : Nat) (R : Rl) : Prop := X 4 (5 * i) = R.1.1 ∧ X 4 (5 * i + 1) = R.1.2.1 ∧ X 4 (5 * i + 2) = R.1.2.2 ∧ X 4 (5 * i + 3) = bI R.2.1 ∧ X 4 (5 * i + 4) = nI R.2.2.length ∧ R.2.2.length ≤ 6 ∧ (R.1.1 = 0 ∨ R.1.1 = 1 ∨ R.1.1 = 2 ∨ R.1.1 = 3) ∧ okPat R.1.1 R.1.2.1 R.1.2.2 ∧ ∀ j, j < R.2.2.length → okA (R.2.2.getD j ac0) ∧ Y 0 (6 * i + j) = lN (pkA (R.2.2.getD j ac0))
def nRu (X : Nat → Nat → Int32) (Y : Nat → Nat → Int64) (rls : List Rl) : Prop := X 5 3 = nI rls.length ∧ rls.length ≤ 8 ∧ (∀ i, i < rls.length → nRl X Y i (rls.getD i rl0)) ∧ ∀ i, rls.length ≤ i → i < 8 → X 4 (5 * i + 3) = 0 ∧ X 4 (5 * i + 4) = 0
def nWS (X : Nat → Nat → Int32) (Y : Nat → Nat → Int64) (w : WS) : Prop := nT 0 X w.1 ∧ nRws X Y w.2.1 ∧ nLns X Y w.2.2.1 ∧ X 5 2 = w.2.2.2
def nE (X : Nat → Nat → Int32) (Y : Nat → Nat → Int64) (sep rnum : Int32) (typ : List Int32) (rls : List Rl) : Prop := X 5 0 = sep ∧ X 5 1 = rnum ∧ nT 3 X typ ∧ nRu X Y rls
def nA (X : Nat → Nat → Int32) (Y : Nat → Nat → Int64) (S : aS) : Prop := nE X Y S.1 S.2.1 S.2.2.1 S.2.2.2.2 ∧ nWS X Y S.2.2.2.1
def okS (S : aS) : Prop := S.1 ∈ alph ∧ oks S.2.2.1 ∧ okW S.2.2.2.1
theorem nRl.ch {X X' : Nat → Nat → Int32} {Y Y' : Nat → Nat → Int64} {i : Nat} {R : Rl} (h : nRl X Y i R) (h4 : X' 4 = X 4) (hY : Y' 0 = Y 0) : nRl X' Y' i R := by
  unfold nRl at *
  rw [h4, hY]
  exact h
theorem nRu.ch {X X' : Nat → Nat → Int32} {Y Y' : Nat → Nat → Int64} {rls : List Rl} (h : nRu X Y rls) (h3 : X' 5 3 = X 5 3) (h4 : X' 4 = X 4) (hY : Y' 0 = Y 0) : nRu X' Y' rls := ⟨by rw [h3]; exact h.1, h.2.1, fun i hi => (h.2.2.1 i hi).ch h4 hY, by rw [h4]; exact h.2.2.2⟩
theorem nE.ch {X X' : Nat → Nat → Int32} {Y Y' : Nat → Nat → Int64} {sep rnum : Int32} {typ : List Int32} {rls : List Rl} (h : nE X Y sep rnum typ rls) (h0 : X' 5 0 = X 5 0) (h1 : X' 5 1 = X 5 1) (h3 : X' 5 3 = X 5 3) (hx : X' 3 = X 3) (h4 : X' 4 = X 4) (hY : Y' 0 = Y 0) : nE X' Y' sep rnum typ rls := ⟨by rw [h0]; exact h.1, by rw [h1]; exact h.2.1, by unfold nT; rw [hx]; exact h.2.2.1, h.2.2.2.ch h3 h4 hY⟩
theorem rl_set {cur : List Rl} {i : Nat} (R : Rl) (hi : i < cur.length) (j : Nat) : (cur.set i R).getD j rl0 = if j = i then R else cur.getD j rl0 := by
  by_cases h : j = i
  · subst h
    rw [if_pos rfl]
    simp [List.getD_eq_getElem?_getD, hi]
  · rw [if_neg h]
    simp [List.getD_eq_getElem?_getD, List.getElem?_set_ne (Ne.symm h)]
/-- the rule i with its range open or not -/
theorem nRu_open {X X' : Nat → Nat → Int32} {Y : Nat → Nat → Int64} {cur : List Rl} {i : Nat} {o : Bool} (h : nRu X Y cur) (hi : i < cur.length) (h3 : X' 5 3 = X 5 3) (hn : X' 4 (5 * i + 3) = bI o) (ho : ∀ j, j ≠ 5 * i + 3 → X' 4 j = X 4 j) : nRu X' Y (cur.set i ((cur.getD i rl0).1, o, (cur.getD i rl0).2.2)) := by
  obtain ⟨g1, g2, g3, g4⟩ := h
  refine ⟨by rw [h3, g1, List.length_set], by simpa using g2, fun j hj => ?_, fun j hj hj8 => ?_⟩
  · rw [List.length_set] at hj
    rw [rl_set _ hi]
    obtain ⟨q0, q1, q2, q3, q4, q5, q6, q7, q8⟩ := g3 j hj
    by_cases hji : j = i
    · rw [if_pos hji]
      subst hji
      exact ⟨by rw [ho _ (by omega)]; exact q0, by rw [ho _ (by omega)]; exact q1, by rw [ho _ (by omega)]; exact q2, hn, by rw [ho _ (by omega)]; exact q4, q5, q6, q7, q8⟩
    · rw [if_neg hji]
      exact ⟨by rw [ho _ (by omega)]; exact q0, by rw [ho _ (by omega)]; exact q1, by rw [ho _ (by omega)]; exact q2, by rw [ho _ (by omega)]; exact q3, by rw [ho _ (by omega)]; exact q4, q5, q6, q7, q8⟩
  · rw [List.length_set] at hj
    rw [ho _ (by omega), ho _ (by omega)]
    exact g4 j hj hj8
