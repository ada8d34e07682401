/-! ===== what both programs mean, side by side ===== -/
/-- separator, record number, typed, (record, rows, lines, faults), rules -/
abbrev aS : Type := Int32 × Int32 × List Int32 × WS × List Rl
def fI (z0 : Nat) (cI cO cT cR : ClassId) (a na : Nat → Nat) (x : fS) (S : aS) : Prop := ∃ stk lab lf, wI x.1 x.2 cT cR a na lab S.1 S.2.1 S.2.2.1 stk S.2.2.2.1 ∧ labI a lab ∧ rI x.1 x.2 z0 cI cO lab lf (a 1) S.2.2.2.2
def gI (y : mS) (S : aS) : Prop := mW y.1 y.2 S.1 S.2.1 S.2.2.2.1 ∧ mTx 7 6 y.1 y.2 S.2.2.1 ∧ mRu y.1 y.2 S.2.2.2.2
/-- an answer: its number (0: none thrown), the value, the state then -/
abbrev oR : Type := Int32 × Int32 × aS
def opRule (S : aS) (pat a b : Int32) : oR := if isPat pat a b = true then (if S.2.2.2.2.length < 8 then (0, nI S.2.2.2.2.length, (S.1, S.2.1, S.2.2.1, S.2.2.2.1, S.2.2.2.2 ++ [((pat, a, b), false, [])])) else (2, 0, S)) else (1, 0, S)
def opAct (S : aS) (z kd fd op x0 y0 : Int32) : oR := if 0 ≤ z ∧ z < nI S.2.2.2.2.length then (if isAc (kd, fd, op, x0, y0) = true then (if (S.2.2.2.2.getD z.toNatClampNeg rl0).2.2.length < 6 then (0, nI ((S.2.2.2.2.getD z.toNatClampNeg rl0).2.2.length + 1), (S.1, S.2.1, S.2.2.1, S.2.2.2.1, actR S.2.2.2.2 z.toNatClampNeg (kd, fd, op, x0, y0))) else (3, 0, S)) else (2, 0, S)) else (1, 0, S)
def opSep (S : aS) (z : Int32) : oR := if isCd z = true then (0, nI (nfd (sgn z) S.2.2.2.1.1), (sgn z, S.2.1, S.2.2.1, S.2.2.2.1, S.2.2.2.2)) else (1, 0, S)
def opType (S : aS) (z : Int32) : oR := if isCd z = true then (if S.2.2.1.length < 60 then (0, nI (S.2.2.1.length + 1), (S.1, S.2.1, S.2.2.1 ++ [sgn z], S.2.2.2.1, S.2.2.2.2)) else (2, 0, S)) else (1, 0, S)
def opSetF (S : aS) (z n0 : Int32) : oR := if isFd z = true then (0, nI (nfd S.1 (setR S.1 S.2.2.2.1.1 z.toNatClampNeg (dec n0))), (S.1, S.2.1, S.2.2.1, (setR S.1 S.2.2.2.1.1 z.toNatClampNeg (dec n0), S.2.2.2.1.2), S.2.2.2.2)) else (1, 0, S)
def opNum (S : aS) (z : Int32) : oR := if isFd z = true then (0, num (fld S.1 S.2.2.2.1.1 z.toNatClampNeg), S) else (1, 0, S)
def opChar (S : aS) (z p0 : Int32) : oR := if isFd z = true ∧ 0 ≤ p0 ∧ p0 < nI (fld S.1 S.2.2.2.1.1 z.toNatClampNeg).length then (0, atT (fld S.1 S.2.2.2.1.1 z.toNatClampNeg) p0, S) else (1, 0, S)
def opRow (S : aS) (z : Int32) : oR := if 0 ≤ z ∧ z < nI S.2.2.2.1.2.1.length then (0, (S.2.2.2.1.2.1.getD z.toNatClampNeg ([], 0)).2, S) else (1, 0, S)
def opKey (S : aS) (z p0 : Int32) : oR := if (0 ≤ z ∧ z < nI S.2.2.2.1.2.1.length) ∧ 0 ≤ p0 ∧ p0 < nI (S.2.2.2.1.2.1.getD z.toNatClampNeg ([], 0)).1.length then (0, atT (S.2.2.2.1.2.1.getD z.toNatClampNeg ([], 0)).1 p0, S) else (1, 0, S)
def opLine (S : aS) (z p0 : Int32) : oR := if (0 ≤ z ∧ z < nI S.2.2.2.1.2.2.1.length) ∧ 0 ≤ p0 ∧ p0 < nI (S.2.2.2.1.2.2.1.getD z.toNatClampNeg []).length then (0, atT (S.2.2.2.1.2.2.1.getD z.toNatClampNeg []) p0, S) else (1, 0, S)
def opEnd (S : aS) : oR := (0, (rulesS S.1 (S.2.1 + 1) S.2.2.2.2 0 (S.2.2.1, S.2.2.2.1.2) 0).1, (S.1, S.2.1 + 1, [], (rulesS S.1 (S.2.1 + 1) S.2.2.2.2 0 (S.2.2.1, S.2.2.2.1.2) 0).2.2, (rulesS S.1 (S.2.1 + 1) S.2.2.2.2 0 (S.2.2.1, S.2.2.2.1.2) 0).2.1))
def opVal (S : aS) (v : Int32) : oR := (0, v, S)
/-- FieldScribe's side of an answer, through a wrapper and plainly -/
def wR (z0 : Nat) (cI cO cT cR : ClassId) (a na : Nat → Nat) (op : oR) (y : mS) (q : Int32) (x : lS) : Prop := q = op.1 ∧ x.2.1 = y ∧ (q = 0 → x.2.2 0 = op.2.1.toInt64) ∧ fI z0 cI cO cT cR a na x.1 op.2.2
def fR (z0 : Nat) (cI cO cT cR : ClassId) (a na : Nat → Nat) (op : oR) (q : Int32) (x : fS) : Prop := q = op.2.1 ∧ fI z0 cI cO cT cR a na x op.2.2
/-- the reference's side -/
def gR (op : oR) (b : Int32) (y : mS) : Prop := y.1 33 = op.1 ∧ (op.1 = 0 → b = op.2.1) ∧ gI y op.2.2
theorem ct_mono {σ : Type} {D : va_G} {tys : List (ClassId × FieldType)} {z0 : Nat} {A : Nat → Prop} {pic : σ → Heap → Prop} {l : Launch} {y : MethodName} {ws : List Cond} {rm : Room} {av : List Value} {x : σ} {post post' : Int32 → σ → Prop} (h : ct D tys z0 A pic l y ws rm av x (qI pic A post)) (hp : ∀ r x', post r x' → post' r x') : ct D tys z0 A pic l y ws rm av x (qI pic A post') := by
  have h2 : MetFree l y (headSpec ws rm) (va_Pc av (fun U => pic x U.heap ∧ kw D tys z0 A U)) (fun _ _ _ _ _ => True) (fun a st o t => qI pic A post a st o t ∧ ∃ L, FrameEnd st o t L rm.cells rm.slots ∧ ∀ q ∈ L, A q.base) := h
  show MetFree l y (headSpec ws rm) (va_Pc av (fun U => pic x U.heap ∧ kw D tys z0 A U)) (fun _ _ _ _ _ => True) (fun a st o t => qI pic A post' a st o t ∧ ∃ L, FrameEnd st o t L rm.cells rm.slots ∧ ∀ q ∈ L, A q.base)
  refine MetFree.mono h2 (fun a s hP => hP) (fun _ _ _ _ _ _ => trivial) (fun a s o t _ hQ => ?_)
  obtain ⟨⟨⟨r, u, h1, h2, h3⟩, h4⟩, h5⟩ := hQ
  exact ⟨⟨⟨r, u, h1, hp r u h2, h3⟩, h4⟩, h5⟩
theorem ct_monoV {σ : Type} {D : va_G} {tys : List (ClassId × FieldType)} {z0 : Nat} {A : Nat → Prop} {pic : σ → Heap → Prop} {l : Launch} {y : MethodName} {ws : List Cond} {rm : Room} {av : List Value} {x : σ} {post post' : σ → Prop} (h : ct D tys z0 A pic l y ws rm av x (qV pic A post)) (hp : ∀ x', post x' → post' x') : ct D tys z0 A pic l y ws rm av x (qV pic A post') := by
  have h2 : MetFree l y (headSpec ws rm) (va_Pc av (fun U => pic x U.heap ∧ kw D tys z0 A U)) (fun _ _ _ _ _ => True) (fun a st o t => qV pic A post a st o t ∧ ∃ L, FrameEnd st o t L rm.cells rm.slots ∧ ∀ q ∈ L, A q.base) := h
  show MetFree l y (headSpec ws rm) (va_Pc av (fun U => pic x U.heap ∧ kw D tys z0 A U)) (fun _ _ _ _ _ => True) (fun a st o t => qV pic A post' a st o t ∧ ∃ L, FrameEnd st o t L rm.cells rm.slots ∧ ∀ q ∈ L, A q.base)
  refine MetFree.mono h2 (fun a s hP => hP) (fun _ _ _ _ _ _ => trivial) (fun a s o t _ hQ => ?_)
  obtain ⟨⟨⟨u, h1, h2, h3⟩, h4⟩, h5⟩ := hQ
  exact ⟨⟨⟨u, h1, hp u h2, h3⟩, h4⟩, h5⟩
theorem mW.ch {I I' : Nat → Int32} {M M' : Nat → Nat → Int32} {sep rnum : Int32} {w : WS} {js ks : List Nat} (h : mW I M sep rnum w) (q : mch js ks I M I' M') (hj : ([0, 2, 3, 8, 9, 21, 25] : List Nat).all (fun z => !js.contains z) = true) (hk : ([1, 4, 5, 22, 23, 24, 26, 27] : List Nat).all (fun z => !ks.contains z) = true) : mW I' M' sep rnum w := by
  simp only [List.all_cons, List.all_nil, Bool.and_eq_true, Bool.not_eq_true', List.contains_eq_mem, decide_eq_false_iff_not] at hj hk
  obtain ⟨j0, j2, j3, j8, j9, j21, j25, -⟩ := hj
  obtain ⟨k1, k4, k5, k22, k23, k24, k26, k27, -⟩ := hk
  obtain ⟨h1, h2, h3, h4, h5, h6, h7⟩ := h
  exact ⟨h1.ch q j2 k1, h2.ch q j0 j3 k4 k5, h3.ch q j21 k22 k23 k24, h4.ch q j25 k26 k27, by rw [q.1 9 j9]; exact h5, by rw [q.1 8 j8]; exact h6, h7⟩
/-- only 'thrown' is set -/
theorem gI.fail {y : mS} {S : aS} (h : gI y S) (v : Int32) : gI (va_up y.1 33 v, y.2) S := by
  have q : mch [33] [] y.1 y.2 (va_up y.1 33 v) y.2 := mch_I (by decide) v
  exact ⟨h.1.ch q (by decide) (by decide), h.2.1.ch q (by decide) (by decide), h.2.2.ch q (by decide) (by decide)⟩
theorem gR_fail {y : mS} {S : aS} {op : oR} (h : gI y S) (v b : Int32) (ho : op = (v, 0, S)) (hv : v ≠ 0) : gR op b (va_up y.1 33 v, y.2) := by
  subst ho
  exact ⟨va_up_same y.1 33 v, fun z => absurd z hv, h.fail v⟩
theorem gR_val {y : mS} {S : aS} {op : oR} (h : gI y S) (v : Int32) (ho : op = (0, v, S)) : gR op v (va_up y.1 33 0, y.2) := by
  subst ho
  exact ⟨va_up_same y.1 33 0, fun _ => rfl, h.fail 0⟩
section SM
variable {l : Launch} {D : va_G} {tys : List (ClassId × FieldType)} {z0 : Nat} {A : Nat → Prop} {cI cZ : ClassId} {md : Nat} {ad : Nat → Nat} {I : Nat → Int32} {M : Nat → Nat → Int32} {S : aS}
theorem M_rule (ht1 : tys[1]? = some (cI, .int)) (h : gI (I, M) S) (pat a b : Int32) : ct D tys z0 A (picM D cI cZ md ad A) l yX12_rule wsX12_rule (rmL 1 22) [.ref md, .int pat, .int a, .int b] (I, M) (qI (picM D cI cZ md ad A) A (gR (opRule S pat a b))) := by
  refine ct_mono (m_rule ht1 h.2.2 pat a b) (fun r x' hp => ?_)
  unfold opRule
  by_cases h1 : isPat pat a b = true
  · rw [if_pos h1] at hp ⊢
    by_cases h2 : S.2.2.2.2.length < 8
    · rw [if_pos h2] at hp ⊢
      obtain ⟨I', M', rfl, rfl, g1, g2, g3⟩ := hp
      exact ⟨g2, fun _ => rfl, h.1.ch g3 (by decide) (by decide), h.2.1.ch g3 (by decide) (by decide), g1⟩
    · rw [if_neg h2] at hp ⊢
      subst hp
      exact gR_fail h 2 r rfl (by decide)
  · rw [if_neg h1] at hp ⊢
    subst hp
    exact gR_fail h 1 r rfl (by decide)
theorem M_act (ht1 : tys[1]? = some (cI, .int)) (h : gI (I, M) S) (z kd fd op x0 y0 : Int32) : ct D tys z0 A (picM D cI cZ md ad A) l yX12_act wsX12_act (rmL 2 42) [.ref md, .int z, .int kd, .int fd, .int op, .int x0, .int y0] (I, M) (qI (picM D cI cZ md ad A) A (gR (opAct S z kd fd op x0 y0))) := by
  refine ct_mono (m_act ht1 h.2.2 z kd fd op x0 y0) (fun r x' hp => ?_)
  unfold opAct
  by_cases h1 : 0 ≤ z ∧ z < nI S.2.2.2.2.length
  · rw [if_pos h1] at hp ⊢
    by_cases h2 : isAc (kd, fd, op, x0, y0) = true
    · rw [if_pos h2] at hp ⊢
      by_cases h3 : (S.2.2.2.2.getD z.toNatClampNeg rl0).2.2.length < 6
      · rw [if_pos h3] at hp ⊢
        obtain ⟨I', M', rfl, rfl, g1, g2, g3⟩ := hp
        exact ⟨g2, fun _ => rfl, h.1.ch g3 (by decide) (by decide), h.2.1.ch g3 (by decide) (by decide), g1⟩
      · rw [if_neg h3] at hp ⊢
        subst hp
        exact gR_fail h 3 r rfl (by decide)
    · rw [if_neg h2] at hp ⊢
      subst hp
      exact gR_fail h 2 r rfl (by decide)
  · rw [if_neg h1] at hp ⊢
    subst hp
    exact gR_fail h 1 r rfl (by decide)
theorem M_setSeparator (ht1 : tys[1]? = some (cI, .int)) (h : gI (I, M) S) (z : Int32) : ct D tys z0 A (picM D cI cZ md ad A) l yX12_setSeparator wsX12_setSeparator (rmL 1 22) [.ref md, .int z] (I, M) (qI (picM D cI cZ md ad A) A (gR (opSep S z))) := by
  refine ct_mono (m_setSeparator ht1 h.1 z) (fun r x' hp => ?_)
  unfold opSep
  by_cases h1 : isCd z = true
  · rw [if_pos h1] at hp ⊢
    obtain ⟨I', M', rfl, rfl, g1, g2, g3⟩ := hp
    exact ⟨g2, fun _ => rfl, g1, h.2.1.ch g3 (by decide) (by decide), h.2.2.ch g3 (by decide) (by decide)⟩
  · rw [if_neg h1] at hp ⊢
    subst hp
    exact gR_fail h 1 r rfl (by decide)
theorem M_type (ht1 : tys[1]? = some (cI, .int)) (h : gI (I, M) S) (z : Int32) : ct D tys z0 A (picM D cI cZ md ad A) l yX12_type wsX12_type (rmL 1 22) [.ref md, .int z] (I, M) (qI (picM D cI cZ md ad A) A (gR (opType S z))) := by
  refine ct_mono (m_type ht1 h.2.1 z) (fun r x' hp => ?_)
  unfold opType
  by_cases h1 : isCd z = true
  · rw [if_pos h1] at hp ⊢
    by_cases h2 : S.2.2.1.length < 60
    · rw [if_pos h2] at hp ⊢
      obtain ⟨I', M', rfl, rfl, g1, g2, g3⟩ := hp
      exact ⟨g2, fun _ => rfl, h.1.ch g3 (by decide) (by decide), g1, h.2.2.ch g3 (by decide) (by decide)⟩
    · rw [if_neg h2] at hp ⊢
      subst hp
      exact gR_fail h 2 r rfl (by decide)
  · rw [if_neg h1] at hp ⊢
    subst hp
    exact gR_fail h 1 r rfl (by decide)
theorem M_setField (ht1 : tys[1]? = some (cI, .int)) (h : gI (I, M) S) (z n0 : Int32) : ct D tys z0 A (picM D cI cZ md ad A) l yX12_setField wsX12_setField (rmL 3 66) [.ref md, .int z, .int n0] (I, M) (qI (picM D cI cZ md ad A) A (gR (opSetF S z n0))) := by
  refine ct_mono (m_setField ht1 h.1 z n0) (fun r x' hp => ?_)
  unfold opSetF
  by_cases h1 : isFd z = true
  · rw [if_pos h1] at hp ⊢
    obtain ⟨I', M', rfl, rfl, g1, g2, g3⟩ := hp
    exact ⟨g2, fun _ => rfl, g1, h.2.1.ch g3 (by decide) (by decide), h.2.2.ch g3 (by decide) (by decide)⟩
  · rw [if_neg h1] at hp ⊢
    subst hp
    exact gR_fail h 1 r rfl (by decide)
theorem M_number (ht1 : tys[1]? = some (cI, .int)) (h : gI (I, M) S) (z : Int32) : ct D tys z0 A (picM D cI cZ md ad A) l yX12_number wsX12_number (rmL 4 92) [.ref md, .int z] (I, M) (qI (picM D cI cZ md ad A) A (gR (opNum S z))) := by
  refine ct_mono (m_number ht1 h.1 z) (fun r x' hp => ?_)
  unfold opNum
  by_cases h1 : isFd z = true
  · rw [if_pos h1] at hp ⊢
    obtain ⟨rfl, rfl⟩ := hp
    exact gR_val h _ rfl
  · rw [if_neg h1] at hp ⊢
    subst hp
    exact gR_fail h 1 r rfl (by decide)
theorem M_character (ht1 : tys[1]? = some (cI, .int)) (h : gI (I, M) S) (hch : chs S.2.2.2.1.1) (z p0 : Int32) : ct D tys z0 A (picM D cI cZ md ad A) l yX12_character wsX12_character (rmL 2 42) [.ref md, .int z, .int p0] (I, M) (qI (picM D cI cZ md ad A) A (gR (opChar S z p0))) := by
  refine ct_mono (m_character ht1 h.1.1 h.1.2.1 hch z p0) (fun r x' hp => ?_)
  unfold opChar
  by_cases h1 : isFd z = true ∧ 0 ≤ p0 ∧ p0 < nI (fld S.1 S.2.2.2.1.1 z.toNatClampNeg).length
  · rw [if_pos h1] at hp ⊢
    obtain ⟨rfl, rfl⟩ := hp
    exact gR_val h _ rfl
  · rw [if_neg h1] at hp ⊢
    subst hp
    exact gR_fail h 1 r rfl (by decide)
theorem M_row (ht1 : tys[1]? = some (cI, .int)) (h : gI (I, M) S) (z : Int32) : ct D tys z0 A (picM D cI cZ md ad A) l yX12_row wsX12_row (rmL 1 22) [.ref md, .int z] (I, M) (qI (picM D cI cZ md ad A) A (gR (opRow S z))) := by
  refine ct_mono (m_row ht1 h.1 z) (fun r x' hp => ?_)
  unfold opRow
  by_cases h1 : 0 ≤ z ∧ z < nI S.2.2.2.1.2.1.length
  · rw [if_pos h1] at hp ⊢
    obtain ⟨rfl, rfl⟩ := hp
    exact gR_val h _ rfl
  · rw [if_neg h1] at hp ⊢
    subst hp
    exact gR_fail h 1 r rfl (by decide)
theorem map_getDr (rs : RR) (i : Nat) : (rs.map (·.1)).getD i [] = (rs.getD i ([], 0)).1 := by
  simp only [List.getD_eq_getElem?_getD, List.getElem?_map]
  cases rs[i]? <;> rfl
theorem M_key (ht1 : tys[1]? = some (cI, .int)) (h : gI (I, M) S) (hch : ∀ i, i < S.2.2.2.1.2.1.length → chs (S.2.2.2.1.2.1.getD i ([], 0)).1) (z p0 : Int32) : ct D tys z0 A (picM D cI cZ md ad A) l yX12_key wsX12_key (rmL 1 22) [.ref md, .int z, .int p0] (I, M) (qI (picM D cI cZ md ad A) A (gR (opKey S z p0))) := by
  refine ct_mono (m_key ht1 h.1.2.2.1.1 (by rw [List.length_map]; exact h.1.2.2.1.2.2) z p0 (fun i hi => by rw [map_getDr]; exact hch i (by rw [List.length_map] at hi; exact hi))) (fun r x' hp => ?_)
  rw [List.length_map, map_getDr] at hp
  unfold opKey
  by_cases h1 : (0 ≤ z ∧ z < nI S.2.2.2.1.2.1.length) ∧ 0 ≤ p0 ∧ p0 < nI (S.2.2.2.1.2.1.getD z.toNatClampNeg ([], 0)).1.length
  · rw [if_pos h1] at hp ⊢
    obtain ⟨rfl, rfl⟩ := hp
    exact gR_val h _ rfl
  · rw [if_neg h1] at hp ⊢
    subst hp
    exact gR_fail h 1 r rfl (by decide)
theorem M_line (ht1 : tys[1]? = some (cI, .int)) (h : gI (I, M) S) (hch : ∀ i, i < S.2.2.2.1.2.2.1.length → chs (S.2.2.2.1.2.2.1.getD i [])) (z p0 : Int32) : ct D tys z0 A (picM D cI cZ md ad A) l yX12_line wsX12_line (rmL 1 22) [.ref md, .int z, .int p0] (I, M) (qI (picM D cI cZ md ad A) A (gR (opLine S z p0))) := by
  refine ct_mono (m_line ht1 h.1.2.2.2.1.1 h.1.2.2.2.1.2 z p0 hch) (fun r x' hp => ?_)
  unfold opLine
  by_cases h1 : (0 ≤ z ∧ z < nI S.2.2.2.1.2.2.1.length) ∧ 0 ≤ p0 ∧ p0 < nI (S.2.2.2.1.2.2.1.getD z.toNatClampNeg []).length
  · rw [if_pos h1] at hp ⊢
    obtain ⟨rfl, rfl⟩ := hp
    exact gR_val h _ rfl
  · rw [if_neg h1] at hp ⊢
    subst hp
    exact gR_fail h 1 r rfl (by decide)
theorem M_end (ht1 : tys[1]? = some (cI, .int)) (ht2 : tys[2]? = some (cZ, .boolean)) (h : gI (I, M) S) (hn : ∃ N, N + 1 < 1000000000 ∧ S.2.1 = nI N) : ct D tys z0 A (picM D cI cZ md ad A) l yX12_end wsX12_end (rmL 9 206) [.ref md] (I, M) (qI (picM D cI cZ md ad A) A (gR (opEnd S))) := by
  refine ct_mono (m_end ht1 ht2 h.1 hn h.2.1 h.2.2) (fun r x' hp => ?_)
  obtain ⟨I', M', rfl, rfl, g1, g2, g3, g4⟩ := hp
  exact ⟨g4, fun _ => rfl, g1, g2, g3⟩
theorem M_fields (h : gI (I, M) S) : ct D tys z0 A (picM D cI cZ md ad A) l yX12_fields wsX12_fields rm0 [.ref md] (I, M) (qI (picM D cI cZ md ad A) A (gR (opVal S (nI (nfd S.1 S.2.2.2.1.1))))) := by
  refine ct_mono m_fields (fun r x' hp => ?_)
  obtain ⟨rfl, rfl⟩ := hp
  exact gR_val h _ (by rw [show I 3 = _ from h.1.2.1.2.1]; rfl)
theorem M_rows (h : gI (I, M) S) : ct D tys z0 A (picM D cI cZ md ad A) l yX12_rows wsX12_rows rm0 [.ref md] (I, M) (qI (picM D cI cZ md ad A) A (gR (opVal S (nI S.2.2.2.1.2.1.length)))) := by
  refine ct_mono m_rows (fun r x' hp => ?_)
  obtain ⟨rfl, rfl⟩ := hp
  exact gR_val h _ (by rw [show I 21 = _ from h.1.2.2.1.1.1, List.length_map]; rfl)
theorem M_lines (h : gI (I, M) S) : ct D tys z0 A (picM D cI cZ md ad A) l yX12_lines wsX12_lines rm0 [.ref md] (I, M) (qI (picM D cI cZ md ad A) A (gR (opVal S (nI S.2.2.2.1.2.2.1.length)))) := by
  refine ct_mono m_lines (fun r x' hp => ?_)
  obtain ⟨rfl, rfl⟩ := hp
  exact gR_val h _ (by rw [show I 25 = _ from h.1.2.2.2.1.1.1]; rfl)
theorem M_faults (h : gI (I, M) S) : ct D tys z0 A (picM D cI cZ md ad A) l yX12_faults wsX12_faults rm0 [.ref md] (I, M) (qI (picM D cI cZ md ad A) A (gR (opVal S S.2.2.2.1.2.2.2))) := by
  refine ct_mono m_faults (fun r x' hp => ?_)
  obtain ⟨rfl, rfl⟩ := hp
  exact gR_val h _ (by rw [show I 9 = _ from h.1.2.2.2.2.1]; rfl)
theorem M_useStack (h : gI (I, M) S) (b : Int32) : ct D tys z0 A (picM D cI cZ md ad A) l yX12_useStack wsX12_useStack rm0 [.ref md, .int b] (I, M) (qV (picM D cI cZ md ad A) A (fun y => gI y S)) := by
  refine ct_monoV (m_useStack b) (fun x' hp => ?_)
  subst hp
  exact h.fail 0
end SM
