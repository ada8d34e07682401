/-! ===== FieldScribe's answers, as the law has them ===== -/
def dval (cs : List Int32) (op : oR) : Int32 := if op.1 = 0 then op.2.1 else cs.getD (op.1.toNatClampNeg - 1) 0
section SD
variable {l : Launch} {D : va_G} {tys : List (ClassId × FieldType)} {z0 : Nat} {A : Nat → Prop} {cC cI cZ cJ cO cT cR : ClassId} {ad al a na : Nat → Nat} {xf : fS} {X : Nat → Nat → Int32} {Y : Nat → Nat → Int64} {S : aS}
def dR (z0 : Nat) (cI cO cT cR : ClassId) (a na : Nat → Nat) (cs : List Int32) (op : oR) (X : Nat → Nat → Int32) (Y : Nat → Nat → Int64) (q : Int32) (x : lS) : Prop := ∃ x', x = (x', X, Y) ∧ q = dval cs op ∧ fI z0 cI cO cT cR a na x' op.2.2
theorem dR_ok {cs : List Int32} {op : oR} {q v : Int32} {S' : aS} {x' : fS} (ho : op = (0, v, S')) (hr : q = v) (hF : fI z0 cI cO cT cR a na x' S') : dR z0 cI cO cT cR a na cs op X Y q (x', X, Y) := by
  subst ho hr
  exact ⟨x', rfl, rfl, hF⟩
theorem dR_no {cs : List Int32} {op : oR} {q v : Int32} {x' : fS} (ho : op = (v, 0, S)) (hv : v ≠ 0) (hq : q = cs.getD (v.toNatClampNeg - 1) 0) (hF : fI z0 cI cO cT cR a na x' S) : dR z0 cI cO cT cR a na cs op X Y q (x', X, Y) := by
  subst ho hq
  exact ⟨x', rfl, by unfold dval; rw [if_neg hv], hF⟩
theorem D_rule (hl : l.stackTraces = false) (ht5 : tys[5]? = some (cO, .object "java/lang/Object")) (hF : fI z0 cI cO cT cR a na xf S) (p1 p2 p3 : Int32) : ct D tys z0 A (picL D cC cI cJ ad al A) l yL_does wsL_does ({ frames := 9, cells := 3, slots := 18, locals := 300 } : Room) [(.ref (a 0)), (.int 0), (.int p1), (.int p2), (.int p3)] (xf, X, Y) (qI (picL D cC cI cJ ad al A) A (dR z0 cI cO cT cR a na [-200000, -100000] (opRule S p1 p2 p3) X Y)) := by
  have hg0 := hF.gC (D := D) (cC := cC) (B := AF ad al A)
  obtain ⟨f, T⟩ := xf
  have hF0 := hF
  obtain ⟨stk, lab, lf, hW, hL, hR⟩ := hF
  refine d_rule (k_rule hl ht5 hW hL hR p1 p2 p3) hg0 (fun E x' hp => ?_) (fun q x hq => ?_)
  · rcases hp.2 with h | h
    · exact Or.inl h.1
    · exact Or.inr h.1
  · rcases hq with ⟨r, x', hp, rfl, rfl⟩ | ⟨E, x', hp, hq, rfl⟩
    · obtain ⟨f', lf', rfl, c1, c2, c3, w1, r1⟩ := hp
      exact dR_ok (S' := (S.1, S.2.1, S.2.2.1, S.2.2.2.1, S.2.2.2.2 ++ [((p1, p2, p3), false, [])])) (by unfold opRule; rw [if_pos c1, if_pos c2]) c3 ⟨stk, lab, lf', w1, hL, r1⟩
    · obtain ⟨rfl, h | h⟩ := hp
      · exact dR_no (v := 1) (by unfold opRule; rw [if_neg (by rw [h.2]; decide)]) (by decide) (by rw [hq, h.1]; decide +kernel) hF0
      · exact dR_no (v := 2) (by unfold opRule; rw [if_pos h.2.1, if_neg (by omega)]) (by decide) (by rw [hq, h.1]; decide +kernel) hF0
theorem D_acted (hl : l.stackTraces = false) (ht : tys[0]? = some (cC, .char)) (ht1 : tys[1]? = some (cI, .int)) (ht5 : tys[5]? = some (cO, .object "java/lang/Object")) (hF : fI z0 cI cO cT cR a na xf S) (p1 p2 p3 p4 p5 p6 : Int32) : ct D tys z0 A (picL D cC cI cJ ad al A) l yL_acted wsL_acted ({ frames := 9, cells := 8, slots := 88, locals := 300 } : Room) [(.ref (a 0)), (.int p1), (.int p2), (.int p3), (.int p4), (.int p5), (.int p6)] (xf, X, Y) (qI (picL D cC cI cJ ad al A) A (dR z0 cI cO cT cR a na [-300000, -200000, -100000] (opAct S p1 p2 p3 p4 p5 p6) X Y)) := by
  have hg0 := hF.gC (D := D) (cC := cC) (B := AF ad al A)
  obtain ⟨f, T⟩ := xf
  have hF0 := hF
  obtain ⟨stk, lab, lf, hW, hL, hR⟩ := hF
  refine d_acted (k_act hl ht ht1 ht5 hW hL hR p1 p2 p3 p4 p5 p6) hg0 (fun E x' hp => ?_) (fun q x hq => ?_)
  · rcases hp.2 with h | h | h
    · exact Or.inl h.1
    · exact Or.inr (Or.inl h.1)
    · exact Or.inr (Or.inr h.1)
  · rcases hq with ⟨r, x', hp, rfl, rfl⟩ | ⟨E, x', hp, hq, rfl⟩
    · obtain ⟨f', T', lab', lf', rfl, c1, c2, c3, c4, w1, l1, r1⟩ := hp
      exact dR_ok (S' := (S.1, S.2.1, S.2.2.1, S.2.2.2.1, actR S.2.2.2.2 p1.toNatClampNeg (p2, p3, p4, p5, p6))) (by unfold opAct; rw [if_pos c1, if_pos c2, if_pos c3]) c4 ⟨stk, lab', lf', w1, l1, r1⟩
    · obtain ⟨rfl, h | h | h⟩ := hp
      · exact dR_no (v := 1) (by unfold opAct; rw [if_neg h.2]) (by decide) (by rw [hq, h.1]; decide +kernel) hF0
      · exact dR_no (v := 2) (by unfold opAct; rw [if_pos h.2.1, if_neg (by rw [h.2.2]; decide)]) (by decide) (by rw [hq, h.1]; decide +kernel) hF0
      · exact dR_no (v := 3) (by unfold opAct; rw [if_pos h.2.1, if_pos h.2.2.1, if_neg (by omega)]) (by decide) (by rw [hq, h.1]; decide +kernel) hF0
theorem D_act (hl : l.stackTraces = false) (ht : tys[0]? = some (cC, .char)) (ht1 : tys[1]? = some (cI, .int)) (ht5 : tys[5]? = some (cO, .object "java/lang/Object")) (hF : fI z0 cI cO cT cR a na xf S) (p1 p2 p3 : Int32) : ct D tys z0 A (picL D cC cI cJ ad al A) l yL_does wsL_does ({ frames := 9, cells := 8, slots := 88, locals := 300 } : Room) [(.ref (a 0)), (.int 1), (.int p1), (.int p2), (.int p3)] (xf, X, Y) (qI (picL D cC cI cJ ad al A) A (dR z0 cI cO cT cR a na [-300000, -200000, -100000] (opAct S p1 p2 p3 0 0 0) X Y)) := by
  have hg0 := hF.gC (D := D) (cC := cC) (B := AF ad al A)
  obtain ⟨f, T⟩ := xf
  have hF0 := hF
  obtain ⟨stk, lab, lf, hW, hL, hR⟩ := hF
  refine d_act (k_act hl ht ht1 ht5 hW hL hR p1 p2 p3 0 0 0) hg0 (fun E x' hp => ?_) (fun q x hq => ?_)
  · rcases hp.2 with h | h | h
    · exact Or.inl h.1
    · exact Or.inr (Or.inl h.1)
    · exact Or.inr (Or.inr h.1)
  · rcases hq with ⟨r, x', hp, rfl, rfl⟩ | ⟨E, x', hp, hq, rfl⟩
    · obtain ⟨f', T', lab', lf', rfl, c1, c2, c3, c4, w1, l1, r1⟩ := hp
      exact dR_ok (S' := (S.1, S.2.1, S.2.2.1, S.2.2.2.1, actR S.2.2.2.2 p1.toNatClampNeg (p2, p3, 0, 0, 0))) (by unfold opAct; rw [if_pos c1, if_pos c2, if_pos c3]) c4 ⟨stk, lab', lf', w1, l1, r1⟩
    · obtain ⟨rfl, h | h | h⟩ := hp
      · exact dR_no (v := 1) (by unfold opAct; rw [if_neg h.2]) (by decide) (by rw [hq, h.1]; decide +kernel) hF0
      · exact dR_no (v := 2) (by unfold opAct; rw [if_pos h.2.1, if_neg (by rw [h.2.2]; decide)]) (by decide) (by rw [hq, h.1]; decide +kernel) hF0
      · exact dR_no (v := 3) (by unfold opAct; rw [if_pos h.2.1, if_pos h.2.2.1, if_neg (by omega)]) (by decide) (by rw [hq, h.1]; decide +kernel) hF0
theorem D_setSeparator (hl : l.stackTraces = false) (ht : tys[0]? = some (cC, .char)) (ht4 : tys[4]? = some (cT, .object RX10)) (hF : fI z0 cI cO cT cR a na xf S) (p1 p2 p3 : Int32) : ct D tys z0 A (picL D cC cI cJ ad al A) l yL_does wsL_does ({ frames := 8, cells := 1, slots := 6, locals := 300 } : Room) [(.ref (a 0)), (.int 2), (.int p1), (.int p2), (.int p3)] (xf, X, Y) (qI (picL D cC cI cJ ad al A) A (dR z0 cI cO cT cR a na [-200000] (opSep S p1) X Y)) := by
  have hg0 := hF.gC (D := D) (cC := cC) (B := AF ad al A)
  obtain ⟨f, T⟩ := xf
  have hF0 := hF
  obtain ⟨stk, lab, lf, hW, hL, hR⟩ := hF
  refine d_setSeparator (k_setSeparator hl ht ht4 hW hL p1) hg0 (fun E x' hp => hp.1) (fun q x hq => ?_)
  rcases hq with ⟨r, x', hp, rfl, rfl⟩ | ⟨E, x', hp, hq, rfl⟩
  · obtain ⟨f', T', rfl, c1, k1, t1, c2, w1⟩ := hp
    exact dR_ok (S' := (sgn p1, S.2.1, S.2.2.1, S.2.2.2.1, S.2.2.2.2)) (by unfold opSep; rw [if_pos c1]) c2 ⟨stk, lab, lf, w1, hL, hR.kp k1 t1 (by decide) (by decide) (by decide) (by decide) (by decide) (by decide) (by decide) (by decide)⟩
  · obtain ⟨rfl, rfl, c1⟩ := hp
    exact dR_no (v := 1) (by unfold opSep; rw [if_neg (by rw [c1]; decide)]) (by decide) (by rw [hq]; decide +kernel) hF0
theorem D_type (hl : l.stackTraces = false) (ht : tys[0]? = some (cC, .char)) (hF : fI z0 cI cO cT cR a na xf S) (p1 p2 p3 : Int32) : ct D tys z0 A (picL D cC cI cJ ad al A) l yL_does wsL_does ({ frames := 8, cells := 2, slots := 12, locals := 300 } : Room) [(.ref (a 0)), (.int 3), (.int p1), (.int p2), (.int p3)] (xf, X, Y) (qI (picL D cC cI cJ ad al A) A (dR z0 cI cO cT cR a na [-200000, -100000] (opType S p1) X Y)) := by
  have hg0 := hF.gC (D := D) (cC := cC) (B := AF ad al A)
  obtain ⟨f, T⟩ := xf
  have hF0 := hF
  obtain ⟨stk, lab, lf, hW, hL, hR⟩ := hF
  refine d_type (k_type hl ht hW hL p1) hg0 (fun E x' hp => ?_) (fun q x hq => ?_)
  · rcases hp.2 with h | h
    · exact Or.inl h.1
    · exact Or.inr h.1
  · rcases hq with ⟨r, x', hp, rfl, rfl⟩ | ⟨E, x', hp, hq, rfl⟩
    · obtain ⟨T', rfl, c1, c2, t1, c3, w1⟩ := hp
      exact dR_ok (S' := (S.1, S.2.1, S.2.2.1 ++ [sgn p1], S.2.2.2.1, S.2.2.2.2)) (by unfold opType; rw [if_pos c1, if_pos c2]) c3 ⟨stk, lab, lf, w1, hL, hR.kp (kpN.rf (ns := [])) t1 (by decide) (by decide) (by decide) (by decide) (by decide) (by decide) (by decide) (by decide)⟩
    · obtain ⟨rfl, h | h⟩ := hp
      · exact dR_no (v := 1) (by unfold opType; rw [if_neg (by rw [h.2]; decide)]) (by decide) (by rw [hq, h.1]; decide +kernel) hF0
      · exact dR_no (v := 2) (by unfold opType; rw [if_pos h.2.1, if_neg (by omega)]) (by decide) (by rw [hq, h.1]; decide +kernel) hF0
theorem D_setField (hl : l.stackTraces = false) (ht : tys[0]? = some (cC, .char)) (ht4 : tys[4]? = some (cT, .object RX10)) (hsep : ch S.1) (hF : fI z0 cI cO cT cR a na xf S) (p1 p2 p3 : Int32) : ct D tys z0 A (picL D cC cI cJ ad al A) l yL_does wsL_does ({ frames := 8, cells := 1, slots := 6, locals := 300 } : Room) [(.ref (a 0)), (.int 4), (.int p1), (.int p2), (.int p3)] (xf, X, Y) (qI (picL D cC cI cJ ad al A) A (dR z0 cI cO cT cR a na [-300000] (opSetF S p1 p2) X Y)) := by
  have hg0 := hF.gC (D := D) (cC := cC) (B := AF ad al A)
  obtain ⟨f, T⟩ := xf
  have hF0 := hF
  obtain ⟨stk, lab, lf, hW, hL, hR⟩ := hF
  refine d_setField (k_setField hl ht ht4 hW hL hsep p1 p2) hg0 (fun E x' hp => hp.1) (fun q x hq => ?_)
  rcases hq with ⟨r, x', hp, rfl, rfl⟩ | ⟨E, x', hp, hq, rfl⟩
  · obtain ⟨f', T', rfl, c1, k1, t1, c2, w1⟩ := hp
    exact dR_ok (S' := (S.1, S.2.1, S.2.2.1, (setR S.1 S.2.2.2.1.1 p1.toNatClampNeg (dec p2), S.2.2.2.1.2), S.2.2.2.2)) (by unfold opSetF; rw [if_pos c1]) c2 ⟨stk, lab, lf, w1, hL, hR.kp k1 t1 (by decide) (by decide) (by decide) (by decide) (by decide) (by decide) (by decide) (by decide)⟩
  · obtain ⟨rfl, rfl, c1⟩ := hp
    exact dR_no (v := 1) (by unfold opSetF; rw [if_neg (by rw [c1]; decide)]) (by decide) (by rw [hq]; decide +kernel) hF0
theorem D_number (hl : l.stackTraces = false) (ht : tys[0]? = some (cC, .char)) (ht4 : tys[4]? = some (cT, .object RX10)) (hF : fI z0 cI cO cT cR a na xf S) (p1 p2 p3 : Int32) : ct D tys z0 A (picL D cC cI cJ ad al A) l yL_does wsL_does ({ frames := 8, cells := 1, slots := 6, locals := 300 } : Room) [(.ref (a 0)), (.int 5), (.int p1), (.int p2), (.int p3)] (xf, X, Y) (qI (picL D cC cI cJ ad al A) A (dR z0 cI cO cT cR a na [-300000] (opNum S p1) X Y)) := by
  have hg0 := hF.gC (D := D) (cC := cC) (B := AF ad al A)
  obtain ⟨f, T⟩ := xf
  have hF0 := hF
  obtain ⟨stk, lab, lf, hW, hL, hR⟩ := hF
  refine d_number (k_number hl ht ht4 hW p1) hg0 (fun E x' hp => hp.1) (fun q x hq => ?_)
  rcases hq with ⟨r, x', hp, rfl, rfl⟩ | ⟨E, x', hp, hq, rfl⟩
  · obtain ⟨rfl, c1, c2⟩ := hp
    exact dR_ok (by unfold opNum; rw [if_pos c1]) c2 hF0
  · obtain ⟨rfl, rfl, c1⟩ := hp
    exact dR_no (v := 1) (by unfold opNum; rw [if_neg (by rw [c1]; decide)]) (by decide) (by rw [hq]; decide +kernel) hF0
theorem D_character (hl : l.stackTraces = false) (ht : tys[0]? = some (cC, .char)) (ht4 : tys[4]? = some (cT, .object RX10)) (hF : fI z0 cI cO cT cR a na xf S) (p1 p2 p3 : Int32) : ct D tys z0 A (picL D cC cI cJ ad al A) l yL_does wsL_does ({ frames := 9, cells := 2, slots := 12, locals := 300 } : Room) [(.ref (a 0)), (.int 6), (.int p1), (.int p2), (.int p3)] (xf, X, Y) (qI (picL D cC cI cJ ad al A) A (dR z0 cI cO cT cR a na [-300000] (opChar S p1 p2) X Y)) := by
  have hg0 := hF.gC (D := D) (cC := cC) (B := AF ad al A)
  obtain ⟨f, T⟩ := xf
  have hF0 := hF
  obtain ⟨stk, lab, lf, hW, hL, hR⟩ := hF
  refine d_character (k_character hl ht ht4 hW p1 p2) hg0 (fun E x' hp => hp.1) (fun q x hq => ?_)
  rcases hq with ⟨r, x', hp, rfl, rfl⟩ | ⟨E, x', hp, hq, rfl⟩
  · obtain ⟨rfl, c1, c2, c3⟩ := hp
    exact dR_ok (by unfold opChar; rw [if_pos ⟨c1, c2⟩]) c3 hF0
  · obtain ⟨rfl, rfl, c1⟩ := hp
    exact dR_no (v := 1) (by unfold opChar; rw [if_neg c1]) (by decide) (by rw [hq]; decide +kernel) hF0
theorem D_row (hl : l.stackTraces = false) (ht3 : tys[3]? = some (cR, .object RX6)) (hF : fI z0 cI cO cT cR a na xf S) (p1 p2 p3 : Int32) : ct D tys z0 A (picL D cC cI cJ ad al A) l yL_does wsL_does ({ frames := 8, cells := 1, slots := 6, locals := 300 } : Room) [(.ref (a 0)), (.int 7), (.int p1), (.int p2), (.int p3)] (xf, X, Y) (qI (picL D cC cI cJ ad al A) A (dR z0 cI cO cT cR a na [-300000] (opRow S p1) X Y)) := by
  have hg0 := hF.gC (D := D) (cC := cC) (B := AF ad al A)
  obtain ⟨f, T⟩ := xf
  have hF0 := hF
  obtain ⟨stk, lab, lf, hW, hL, hR⟩ := hF
  refine d_row (k_row hl ht3 hW p1) hg0 (fun E x' hp => hp.1) (fun q x hq => ?_)
  rcases hq with ⟨r, x', hp, rfl, rfl⟩ | ⟨E, x', hp, hq, rfl⟩
  · obtain ⟨rfl, c1, c2⟩ := hp
    exact dR_ok (by unfold opRow; rw [if_pos c1]) c2 hF0
  · obtain ⟨rfl, rfl, c1⟩ := hp
    exact dR_no (v := 1) (by unfold opRow; rw [if_neg c1]) (by decide) (by rw [hq]; decide +kernel) hF0
theorem D_key (hl : l.stackTraces = false) (ht : tys[0]? = some (cC, .char)) (ht3 : tys[3]? = some (cR, .object RX6)) (hF : fI z0 cI cO cT cR a na xf S) (p1 p2 p3 : Int32) : ct D tys z0 A (picL D cC cI cJ ad al A) l yL_does wsL_does ({ frames := 9, cells := 2, slots := 12, locals := 300 } : Room) [(.ref (a 0)), (.int 8), (.int p1), (.int p2), (.int p3)] (xf, X, Y) (qI (picL D cC cI cJ ad al A) A (dR z0 cI cO cT cR a na [-300000] (opKey S p1 p2) X Y)) := by
  have hg0 := hF.gC (D := D) (cC := cC) (B := AF ad al A)
  obtain ⟨f, T⟩ := xf
  have hF0 := hF
  obtain ⟨stk, lab, lf, hW, hL, hR⟩ := hF
  refine d_key (k_key hl ht ht3 hW p1 p2) hg0 (fun E x' hp => hp.1) (fun q x hq => ?_)
  rcases hq with ⟨r, x', hp, rfl, rfl⟩ | ⟨E, x', hp, hq, rfl⟩
  · obtain ⟨rfl, c1, c2, c3⟩ := hp
    exact dR_ok (by unfold opKey; rw [if_pos ⟨c1, c2⟩]) c3 hF0
  · obtain ⟨rfl, rfl, c1⟩ := hp
    exact dR_no (v := 1) (by unfold opKey; rw [if_neg c1]) (by decide) (by rw [hq]; decide +kernel) hF0
theorem D_line (hl : l.stackTraces = false) (ht : tys[0]? = some (cC, .char)) (ht4 : tys[4]? = some (cT, .object RX10)) (hF : fI z0 cI cO cT cR a na xf S) (p1 p2 p3 : Int32) : ct D tys z0 A (picL D cC cI cJ ad al A) l yL_does wsL_does ({ frames := 9, cells := 2, slots := 12, locals := 300 } : Room) [(.ref (a 0)), (.int 9), (.int p1), (.int p2), (.int p3)] (xf, X, Y) (qI (picL D cC cI cJ ad al A) A (dR z0 cI cO cT cR a na [-300000] (opLine S p1 p2) X Y)) := by
  have hg0 := hF.gC (D := D) (cC := cC) (B := AF ad al A)
  obtain ⟨f, T⟩ := xf
  have hF0 := hF
  obtain ⟨stk, lab, lf, hW, hL, hR⟩ := hF
  refine d_line (k_line hl ht ht4 hW p1 p2) hg0 (fun E x' hp => hp.1) (fun q x hq => ?_)
  rcases hq with ⟨r, x', hp, rfl, rfl⟩ | ⟨E, x', hp, hq, rfl⟩
  · obtain ⟨rfl, c1, c2, c3⟩ := hp
    exact dR_ok (by unfold opLine; rw [if_pos ⟨c1, c2⟩]) c3 hF0
  · obtain ⟨rfl, rfl, c1⟩ := hp
    exact dR_no (v := 1) (by unfold opLine; rw [if_neg c1]) (by decide) (by rw [hq]; decide +kernel) hF0
end SD
