/-! ===== FieldScribe's side of the answers ===== -/
section SF
variable {l : Launch} {D : va_G} {tys : List (ClassId × FieldType)} {z0 : Nat} {A : Nat → Prop} {cC cI cZ cJ cO cT cR : ClassId} {md oa : Nat} {ad a na : Nat → Nat} {xf : fS} {y : mS} {g : Nat → Int64} {S : aS}
theorem fI.gC {D : va_G} {B : Nat → Prop} (h : fI z0 cI cO cT cR a na xf S) : gC D (picF D cC B) xf 11 (a 0) := by
  obtain ⟨f, T⟩ := xf
  obtain ⟨stk, lab, lf, hW, -, -⟩ := h
  exact (FF_get hW.1 (k := 0) rfl).gC
theorem wR_ok {op : oR} {g' : Nat → Int64} {r v : Int32} {S' : aS} {x' : fS} (ho : op = (0, v, S')) (hg : g' 0 = r.toInt64) (hr : r = v) (hF : fI z0 cI cO cT cR a na x' S') : wR z0 cI cO cT cR a na op y 0 (x', y, g') := by
  subst ho hr
  exact ⟨rfl, rfl, fun _ => hg, hF⟩
theorem wR_no {op : oR} {g' : Nat → Int64} {q v : Int32} {x' : fS} (ho : op = (v, 0, S)) (hq : q = v) (hv : v ≠ 0) (hF : fI z0 cI cO cT cR a na x' S) : wR z0 cI cO cT cR a na op y q (x', y, g') := by
  subst ho hq
  exact ⟨rfl, rfl, fun z => absurd z hv, hF⟩
theorem W_rule (hl : l.stackTraces = false) (ht5 : tys[5]? = some (cO, .object "java/lang/Object")) (ht6 : tys[6]? = some (cJ, .long)) (hF : fI z0 cI cO cT cR a na xf S) (p1 p2 p3 : Int32) : ct D tys z0 A (picL D cC cI cZ cJ md oa ad A) l yL_rule wsL_rule ({ frames := 9, cells := 3, slots := 18, locals := 300 } : Room) [(.ref (a 0)), (.int p1), (.int p2), (.int p3), .ref oa] (xf, y, g) (qI (picL D cC cI cZ cJ md oa ad A) A (wR z0 cI cO cT cR a na (opRule S p1 p2 p3) y)) := by
  have hg0 := hF.gC (D := D) (cC := cC) (B := AF md oa ad A)
  obtain ⟨f, T⟩ := xf
  have hF0 := hF
  obtain ⟨stk, lab, lf, hW, hL, hR⟩ := hF
  refine w_rule ht6 (k_rule hl ht5 hW hL hR p1 p2 p3) hg0 (fun E x' hp => ?_) (fun q x hq => ?_)
  · rcases hp.2 with h | h
    · exact Or.inl h.1
    · exact Or.inr h.1
  · rcases hq with ⟨r, x', g', hp, rfl, hg, rfl⟩ | ⟨E, x', hp, hq, rfl⟩
    · obtain ⟨f', lf', rfl, c1, c2, c3, w1, r1⟩ := hp
      exact wR_ok (S' := (S.1, S.2.1, S.2.2.1, S.2.2.2.1, S.2.2.2.2 ++ [((p1, p2, p3), false, [])])) (by unfold opRule; rw [if_pos c1, if_pos c2]) hg c3 ⟨stk, lab, lf', w1, hL, r1⟩
    · obtain ⟨rfl, h | h⟩ := hp
      · exact wR_no (v := 1) (by unfold opRule; rw [if_neg (by rw [h.2]; decide)]) (by rw [hq, h.1]; decide +kernel) (by decide) hF0
      · exact wR_no (v := 2) (by unfold opRule; rw [if_pos h.2.1, if_neg (by omega)]) (by rw [hq, h.1]; decide +kernel) (by decide) hF0
theorem W_act (hl : l.stackTraces = false) (ht : tys[0]? = some (cC, .char)) (ht1 : tys[1]? = some (cI, .int)) (ht5 : tys[5]? = some (cO, .object "java/lang/Object")) (ht6 : tys[6]? = some (cJ, .long)) (hF : fI z0 cI cO cT cR a na xf S) (p1 p2 p3 p4 p5 p6 : Int32) : ct D tys z0 A (picL D cC cI cZ cJ md oa ad A) l yL_act wsL_act ({ frames := 9, cells := 8, slots := 88, locals := 300 } : Room) [(.ref (a 0)), (.int p1), (.int p2), (.int p3), (.int p4), (.int p5), (.int p6), .ref oa] (xf, y, g) (qI (picL D cC cI cZ cJ md oa ad A) A (wR z0 cI cO cT cR a na (opAct S p1 p2 p3 p4 p5 p6) y)) := by
  have hg0 := hF.gC (D := D) (cC := cC) (B := AF md oa ad A)
  obtain ⟨f, T⟩ := xf
  have hF0 := hF
  obtain ⟨stk, lab, lf, hW, hL, hR⟩ := hF
  refine w_act ht6 (k_act hl ht ht1 ht5 hW hL hR p1 p2 p3 p4 p5 p6) hg0 (fun E x' hp => ?_) (fun q x hq => ?_)
  · rcases hp.2 with h | h | h
    · exact Or.inl h.1
    · exact Or.inr (Or.inl h.1)
    · exact Or.inr (Or.inr h.1)
  · rcases hq with ⟨r, x', g', hp, rfl, hg, rfl⟩ | ⟨E, x', hp, hq, rfl⟩
    · obtain ⟨f', T', lab', lf', rfl, c1, c2, c3, c4, w1, l1, r1⟩ := hp
      exact wR_ok (S' := (S.1, S.2.1, S.2.2.1, S.2.2.2.1, actR S.2.2.2.2 p1.toNatClampNeg (p2, p3, p4, p5, p6))) (by unfold opAct; rw [if_pos c1, if_pos c2, if_pos c3]) hg c4 ⟨stk, lab', lf', w1, l1, r1⟩
    · obtain ⟨rfl, h | h | h⟩ := hp
      · exact wR_no (v := 1) (by unfold opAct; rw [if_neg h.2]) (by rw [hq, h.1]; decide +kernel) (by decide) hF0
      · exact wR_no (v := 2) (by unfold opAct; rw [if_pos h.2.1, if_neg (by rw [h.2.2]; decide)]) (by rw [hq, h.1]; decide +kernel) (by decide) hF0
      · exact wR_no (v := 3) (by unfold opAct; rw [if_pos h.2.1, if_pos h.2.2.1, if_neg (by omega)]) (by rw [hq, h.1]; decide +kernel) (by decide) hF0
theorem W_setSeparator (hl : l.stackTraces = false) (ht : tys[0]? = some (cC, .char)) (ht4 : tys[4]? = some (cT, .object RX10)) (ht6 : tys[6]? = some (cJ, .long)) (hF : fI z0 cI cO cT cR a na xf S) (p1 : Int32) : ct D tys z0 A (picL D cC cI cZ cJ md oa ad A) l yL_setSeparator wsL_setSeparator ({ frames := 8, cells := 1, slots := 6, locals := 300 } : Room) [(.ref (a 0)), (.int p1), .ref oa] (xf, y, g) (qI (picL D cC cI cZ cJ md oa ad A) A (wR z0 cI cO cT cR a na (opSep S p1) y)) := by
  have hg0 := hF.gC (D := D) (cC := cC) (B := AF md oa ad A)
  obtain ⟨f, T⟩ := xf
  have hF0 := hF
  obtain ⟨stk, lab, lf, hW, hL, hR⟩ := hF
  refine w_setSeparator ht6 (k_setSeparator hl ht ht4 hW hL p1) hg0 (fun E x' hp => hp.1) (fun q x hq => ?_)
  rcases hq with ⟨r, x', g', hp, rfl, hg, rfl⟩ | ⟨E, x', hp, hq, rfl⟩
  · obtain ⟨f', T', rfl, c1, k1, t1, c2, w1⟩ := hp
    exact wR_ok (S' := (sgn p1, S.2.1, S.2.2.1, S.2.2.2.1, S.2.2.2.2)) (by unfold opSep; rw [if_pos c1]) hg c2 ⟨stk, lab, lf, w1, hL, hR.kp k1 t1 (by decide) (by decide) (by decide) (by decide) (by decide) (by decide) (by decide) (by decide)⟩
  · obtain ⟨rfl, rfl, c1⟩ := hp
    exact wR_no (v := 1) (by unfold opSep; rw [if_neg (by rw [c1]; decide)]) (by rw [hq]; decide +kernel) (by decide) hF0
theorem W_type (hl : l.stackTraces = false) (ht : tys[0]? = some (cC, .char)) (ht6 : tys[6]? = some (cJ, .long)) (hF : fI z0 cI cO cT cR a na xf S) (p1 : Int32) : ct D tys z0 A (picL D cC cI cZ cJ md oa ad A) l yL_type wsL_type ({ frames := 8, cells := 2, slots := 12, locals := 300 } : Room) [(.ref (a 0)), (.int p1), .ref oa] (xf, y, g) (qI (picL D cC cI cZ cJ md oa ad A) A (wR z0 cI cO cT cR a na (opType S p1) y)) := by
  have hg0 := hF.gC (D := D) (cC := cC) (B := AF md oa ad A)
  obtain ⟨f, T⟩ := xf
  have hF0 := hF
  obtain ⟨stk, lab, lf, hW, hL, hR⟩ := hF
  refine w_type ht6 (k_type hl ht hW hL p1) hg0 (fun E x' hp => ?_) (fun q x hq => ?_)
  · rcases hp.2 with h | h
    · exact Or.inl h.1
    · exact Or.inr h.1
  · rcases hq with ⟨r, x', g', hp, rfl, hg, rfl⟩ | ⟨E, x', hp, hq, rfl⟩
    · obtain ⟨T', rfl, c1, c2, t1, c3, w1⟩ := hp
      exact wR_ok (S' := (S.1, S.2.1, S.2.2.1 ++ [sgn p1], S.2.2.2.1, S.2.2.2.2)) (by unfold opType; rw [if_pos c1, if_pos c2]) hg c3 ⟨stk, lab, lf, w1, hL, hR.kp (kpN.rf (ns := [])) t1 (by decide) (by decide) (by decide) (by decide) (by decide) (by decide) (by decide) (by decide)⟩
    · obtain ⟨rfl, h | h⟩ := hp
      · exact wR_no (v := 1) (by unfold opType; rw [if_neg (by rw [h.2]; decide)]) (by rw [hq, h.1]; decide +kernel) (by decide) hF0
      · exact wR_no (v := 2) (by unfold opType; rw [if_pos h.2.1, if_neg (by omega)]) (by rw [hq, h.1]; decide +kernel) (by decide) hF0
theorem W_setField (hl : l.stackTraces = false) (ht : tys[0]? = some (cC, .char)) (ht4 : tys[4]? = some (cT, .object RX10)) (ht6 : tys[6]? = some (cJ, .long)) (hsep : ch S.1) (hF : fI z0 cI cO cT cR a na xf S) (p1 p2 : Int32) : ct D tys z0 A (picL D cC cI cZ cJ md oa ad A) l yL_setField wsL_setField ({ frames := 8, cells := 1, slots := 6, locals := 300 } : Room) [(.ref (a 0)), (.int p1), (.int p2), .ref oa] (xf, y, g) (qI (picL D cC cI cZ cJ md oa ad A) A (wR z0 cI cO cT cR a na (opSetF S p1 p2) y)) := by
  have hg0 := hF.gC (D := D) (cC := cC) (B := AF md oa ad A)
  obtain ⟨f, T⟩ := xf
  have hF0 := hF
  obtain ⟨stk, lab, lf, hW, hL, hR⟩ := hF
  refine w_setField ht6 (k_setField hl ht ht4 hW hL hsep p1 p2) hg0 (fun E x' hp => hp.1) (fun q x hq => ?_)
  rcases hq with ⟨r, x', g', hp, rfl, hg, rfl⟩ | ⟨E, x', hp, hq, rfl⟩
  · obtain ⟨f', T', rfl, c1, k1, t1, c2, w1⟩ := hp
    exact wR_ok (S' := (S.1, S.2.1, S.2.2.1, (setR S.1 S.2.2.2.1.1 p1.toNatClampNeg (dec p2), S.2.2.2.1.2), S.2.2.2.2)) (by unfold opSetF; rw [if_pos c1]) hg c2 ⟨stk, lab, lf, w1, hL, hR.kp k1 t1 (by decide) (by decide) (by decide) (by decide) (by decide) (by decide) (by decide) (by decide)⟩
  · obtain ⟨rfl, rfl, c1⟩ := hp
    exact wR_no (v := 1) (by unfold opSetF; rw [if_neg (by rw [c1]; decide)]) (by rw [hq]; decide +kernel) (by decide) hF0
theorem W_number (hl : l.stackTraces = false) (ht : tys[0]? = some (cC, .char)) (ht4 : tys[4]? = some (cT, .object RX10)) (ht6 : tys[6]? = some (cJ, .long)) (hF : fI z0 cI cO cT cR a na xf S) (p1 : Int32) : ct D tys z0 A (picL D cC cI cZ cJ md oa ad A) l yL_number wsL_number ({ frames := 8, cells := 1, slots := 6, locals := 300 } : Room) [(.ref (a 0)), (.int p1), .ref oa] (xf, y, g) (qI (picL D cC cI cZ cJ md oa ad A) A (wR z0 cI cO cT cR a na (opNum S p1) y)) := by
  have hg0 := hF.gC (D := D) (cC := cC) (B := AF md oa ad A)
  obtain ⟨f, T⟩ := xf
  have hF0 := hF
  obtain ⟨stk, lab, lf, hW, hL, hR⟩ := hF
  refine w_number ht6 (k_number hl ht ht4 hW p1) hg0 (fun E x' hp => hp.1) (fun q x hq => ?_)
  rcases hq with ⟨r, x', g', hp, rfl, hg, rfl⟩ | ⟨E, x', hp, hq, rfl⟩
  · obtain ⟨rfl, c1, c2⟩ := hp
    exact wR_ok (by unfold opNum; rw [if_pos c1]) hg c2 hF0
  · obtain ⟨rfl, rfl, c1⟩ := hp
    exact wR_no (v := 1) (by unfold opNum; rw [if_neg (by rw [c1]; decide)]) (by rw [hq]; decide +kernel) (by decide) hF0
theorem W_character (hl : l.stackTraces = false) (ht : tys[0]? = some (cC, .char)) (ht4 : tys[4]? = some (cT, .object RX10)) (ht6 : tys[6]? = some (cJ, .long)) (hF : fI z0 cI cO cT cR a na xf S) (p1 p2 : Int32) : ct D tys z0 A (picL D cC cI cZ cJ md oa ad A) l yL_character wsL_character ({ frames := 9, cells := 2, slots := 12, locals := 300 } : Room) [(.ref (a 0)), (.int p1), (.int p2), .ref oa] (xf, y, g) (qI (picL D cC cI cZ cJ md oa ad A) A (wR z0 cI cO cT cR a na (opChar S p1 p2) y)) := by
  have hg0 := hF.gC (D := D) (cC := cC) (B := AF md oa ad A)
  obtain ⟨f, T⟩ := xf
  have hF0 := hF
  obtain ⟨stk, lab, lf, hW, hL, hR⟩ := hF
  refine w_character ht6 (k_character hl ht ht4 hW p1 p2) hg0 (fun E x' hp => hp.1) (fun q x hq => ?_)
  rcases hq with ⟨r, x', g', hp, rfl, hg, rfl⟩ | ⟨E, x', hp, hq, rfl⟩
  · obtain ⟨rfl, c1, c2, c3⟩ := hp
    exact wR_ok (by unfold opChar; rw [if_pos ⟨c1, c2⟩]) hg c3 hF0
  · obtain ⟨rfl, rfl, c1⟩ := hp
    exact wR_no (v := 1) (by unfold opChar; rw [if_neg c1]) (by rw [hq]; decide +kernel) (by decide) hF0
theorem W_row (hl : l.stackTraces = false) (ht3 : tys[3]? = some (cR, .object RX6)) (ht6 : tys[6]? = some (cJ, .long)) (hF : fI z0 cI cO cT cR a na xf S) (p1 : Int32) : ct D tys z0 A (picL D cC cI cZ cJ md oa ad A) l yL_row wsL_row ({ frames := 8, cells := 1, slots := 6, locals := 300 } : Room) [(.ref (a 0)), (.int p1), .ref oa] (xf, y, g) (qI (picL D cC cI cZ cJ md oa ad A) A (wR z0 cI cO cT cR a na (opRow S p1) y)) := by
  have hg0 := hF.gC (D := D) (cC := cC) (B := AF md oa ad A)
  obtain ⟨f, T⟩ := xf
  have hF0 := hF
  obtain ⟨stk, lab, lf, hW, hL, hR⟩ := hF
  refine w_row ht6 (k_row hl ht3 hW p1) hg0 (fun E x' hp => hp.1) (fun q x hq => ?_)
  rcases hq with ⟨r, x', g', hp, rfl, hg, rfl⟩ | ⟨E, x', hp, hq, rfl⟩
  · obtain ⟨rfl, c1, c2⟩ := hp
    exact wR_ok (by unfold opRow; rw [if_pos c1]) hg c2 hF0
  · obtain ⟨rfl, rfl, c1⟩ := hp
    exact wR_no (v := 1) (by unfold opRow; rw [if_neg c1]) (by rw [hq]; decide +kernel) (by decide) hF0
theorem W_key (hl : l.stackTraces = false) (ht : tys[0]? = some (cC, .char)) (ht3 : tys[3]? = some (cR, .object RX6)) (ht6 : tys[6]? = some (cJ, .long)) (hF : fI z0 cI cO cT cR a na xf S) (p1 p2 : Int32) : ct D tys z0 A (picL D cC cI cZ cJ md oa ad A) l yL_key wsL_key ({ frames := 9, cells := 2, slots := 12, locals := 300 } : Room) [(.ref (a 0)), (.int p1), (.int p2), .ref oa] (xf, y, g) (qI (picL D cC cI cZ cJ md oa ad A) A (wR z0 cI cO cT cR a na (opKey S p1 p2) y)) := by
  have hg0 := hF.gC (D := D) (cC := cC) (B := AF md oa ad A)
  obtain ⟨f, T⟩ := xf
  have hF0 := hF
  obtain ⟨stk, lab, lf, hW, hL, hR⟩ := hF
  refine w_key ht6 (k_key hl ht ht3 hW p1 p2) hg0 (fun E x' hp => hp.1) (fun q x hq => ?_)
  rcases hq with ⟨r, x', g', hp, rfl, hg, rfl⟩ | ⟨E, x', hp, hq, rfl⟩
  · obtain ⟨rfl, c1, c2, c3⟩ := hp
    exact wR_ok (by unfold opKey; rw [if_pos ⟨c1, c2⟩]) hg c3 hF0
  · obtain ⟨rfl, rfl, c1⟩ := hp
    exact wR_no (v := 1) (by unfold opKey; rw [if_neg c1]) (by rw [hq]; decide +kernel) (by decide) hF0
theorem W_line (hl : l.stackTraces = false) (ht : tys[0]? = some (cC, .char)) (ht4 : tys[4]? = some (cT, .object RX10)) (ht6 : tys[6]? = some (cJ, .long)) (hF : fI z0 cI cO cT cR a na xf S) (p1 p2 : Int32) : ct D tys z0 A (picL D cC cI cZ cJ md oa ad A) l yL_line wsL_line ({ frames := 9, cells := 2, slots := 12, locals := 300 } : Room) [(.ref (a 0)), (.int p1), (.int p2), .ref oa] (xf, y, g) (qI (picL D cC cI cZ cJ md oa ad A) A (wR z0 cI cO cT cR a na (opLine S p1 p2) y)) := by
  have hg0 := hF.gC (D := D) (cC := cC) (B := AF md oa ad A)
  obtain ⟨f, T⟩ := xf
  have hF0 := hF
  obtain ⟨stk, lab, lf, hW, hL, hR⟩ := hF
  refine w_line ht6 (k_line hl ht ht4 hW p1 p2) hg0 (fun E x' hp => hp.1) (fun q x hq => ?_)
  rcases hq with ⟨r, x', g', hp, rfl, hg, rfl⟩ | ⟨E, x', hp, hq, rfl⟩
  · obtain ⟨rfl, c1, c2, c3⟩ := hp
    exact wR_ok (by unfold opLine; rw [if_pos ⟨c1, c2⟩]) hg c3 hF0
  · obtain ⟨rfl, rfl, c1⟩ := hp
    exact wR_no (v := 1) (by unfold opLine; rw [if_neg c1]) (by rw [hq]; decide +kernel) (by decide) hF0
theorem F_end (ht : tys[0]? = some (cC, .char)) (ht1 : tys[1]? = some (cI, .int)) (ht3 : tys[3]? = some (cR, .object RX6)) (ht4 : tys[4]? = some (cT, .object RX10)) (ht5 : tys[5]? = some (cO, .object "java/lang/Object")) (hsep : ch S.1) (hF : fI z0 cI cO cT cR a na xf S) : ct D tys z0 A (picF D cC A) l yX11_end wsX11_end (rmL 10 178) [.ref (a 0)] xf (qI (picF D cC A) A (fR z0 cI cO cT cR a na (opEnd S))) := by
  obtain ⟨f, T⟩ := xf
  obtain ⟨stk, lab, lf, hW, hL, hR⟩ := hF
  refine ct_mono (k_end ht ht1 ht3 ht4 ht5 hW hL hsep hR) (fun q x hp => ?_)
  obtain ⟨f', T', rfl, rfl, w1, r1⟩ := hp
  exact ⟨rfl, stk, lab, lf, w1, hL, r1⟩
theorem F_fields (hF : fI z0 cI cO cT cR a na xf S) : ct D tys z0 A (picF D cC A) l yX11_fields wsX11_fields rm0 [.ref (a 0)] xf (qI (picF D cC A) A (fR z0 cI cO cT cR a na (opVal S (nI (nfd S.1 S.2.2.2.1.1))))) := by
  obtain ⟨f, T⟩ := xf
  have hF0 := hF
  obtain ⟨stk, lab, lf, hW, hL, hR⟩ := hF
  refine ct_mono (k_fields hW) (fun q x hp => ?_)
  obtain ⟨rfl, rfl⟩ := hp
  exact ⟨rfl, hF0⟩
theorem F_rows (hF : fI z0 cI cO cT cR a na xf S) : ct D tys z0 A (picF D cC A) l yX11_rows wsX11_rows rm0 [.ref (a 0)] xf (qI (picF D cC A) A (fR z0 cI cO cT cR a na (opVal S (nI S.2.2.2.1.2.1.length)))) := by
  obtain ⟨f, T⟩ := xf
  have hF0 := hF
  obtain ⟨stk, lab, lf, hW, hL, hR⟩ := hF
  refine ct_mono (k_rows hW) (fun q x hp => ?_)
  obtain ⟨rfl, rfl⟩ := hp
  exact ⟨rfl, hF0⟩
theorem F_lines (hF : fI z0 cI cO cT cR a na xf S) : ct D tys z0 A (picF D cC A) l yX11_lines wsX11_lines rm0 [.ref (a 0)] xf (qI (picF D cC A) A (fR z0 cI cO cT cR a na (opVal S (nI S.2.2.2.1.2.2.1.length)))) := by
  obtain ⟨f, T⟩ := xf
  have hF0 := hF
  obtain ⟨stk, lab, lf, hW, hL, hR⟩ := hF
  refine ct_mono (k_lines hW) (fun q x hp => ?_)
  obtain ⟨rfl, rfl⟩ := hp
  exact ⟨rfl, hF0⟩
theorem F_faults (hF : fI z0 cI cO cT cR a na xf S) : ct D tys z0 A (picF D cC A) l yX11_faults wsX11_faults rm0 [.ref (a 0)] xf (qI (picF D cC A) A (fR z0 cI cO cT cR a na (opVal S S.2.2.2.1.2.2.2))) := by
  obtain ⟨f, T⟩ := xf
  have hF0 := hF
  obtain ⟨stk, lab, lf, hW, hL, hR⟩ := hF
  refine ct_mono (k_faults hW) (fun q x hp => ?_)
  obtain ⟨rfl, rfl⟩ := hp
  exact ⟨rfl, hF0⟩
theorem F_useStack (hF : fI z0 cI cO cT cR a na xf S) (b : Bool) : ct D tys z0 A (picF D cC A) l yX11_useStack wsX11_useStack rm0 [.ref (a 0), .int (bI b)] xf (qV (picF D cC A) A (fun x => fI z0 cI cO cT cR a na x S)) := by
  obtain ⟨f, T⟩ := xf
  obtain ⟨stk, lab, lf, hW, hL, hR⟩ := hF
  refine ct_monoV (k_useStack hW hL b) (fun x hp => ?_)
  obtain ⟨f', rfl, k1, w1⟩ := hp
  exact ⟨b, lab, lf, w1, hL, hR.kp k1 (lpT.rf (ls := [])) (by decide) (by decide) (by decide) (by decide) (by decide) (by decide) (by decide) (by decide)⟩
/-- all that is kept is of signs -/
theorem F_chs {B : Nat → Prop} {H : Heap} (hF : fI z0 cI cO cT cR a na xf S) (hP : picF D cC B xf H) : chs S.2.2.2.1.1 ∧ (∀ i, i < S.2.2.2.1.2.1.length → chs (S.2.2.2.1.2.1.getD i ([], 0)).1) ∧ ∀ i, i < S.2.2.2.1.2.2.1.length → chs (S.2.2.2.1.2.2.1.getD i []) := by
  obtain ⟨f, T⟩ := xf
  obtain ⟨stk, lab, lf, hW, hL, hR⟩ := hF
  obtain ⟨h1, h2, h3, h4, h5⟩ := hW
  refine ⟨(FF_le h2.2.1 hP).2, fun i hi => ?_, fun i hi => ?_⟩
  · obtain ⟨ro, -, -, -, g, -⟩ := h3
    exact (FF_le (g.2.2 i hi).1 hP).2
  · obtain ⟨st, -, -, g⟩ := h4
    exact (FF_le (g.2.2.2 i hi) hP).2
end SF
/-! ===== the starts ===== -/
abbrev S0 : aS := (32, 0, [], ([], [], [], 0), [])
theorem gI_0 : gI (I0, fun _ _ => 0) S0 := by
  refine ⟨⟨⟨rfl, by decide, fun j hj => absurd hj (Nat.not_lt_zero j)⟩, ⟨rfl, by decide +kernel, fun k hk => ?_⟩, ⟨⟨rfl, fun i hi => absurd hi (Nat.not_lt_zero i)⟩, fun i hi => absurd hi (Nat.not_lt_zero i), by decide⟩, ⟨⟨rfl, fun i hi => absurd hi (Nat.not_lt_zero i)⟩, by decide⟩, rfl, rfl, fun i j hi => absurd hi (Nat.not_lt_zero i)⟩, ⟨rfl, by decide, fun k hk => absurd hk (Nat.not_lt_zero k)⟩, rfl, by decide, fun i hi => absurd hi (Nat.not_lt_zero i), fun i _ _ => ⟨rfl, rfl⟩⟩
  have h0 : nfd 32 ([] : List Int32) = 0 := rfl
  have hk9 : k < nfd 32 ([] : List Int32) := hk
  rw [h0] at hk9
  exact absurd hk9 (Nat.not_lt_zero k)
/-- from one program's picture, with the other's cells in it, to both -/
theorem L_of {D : va_G} {cC cI cZ cJ : ClassId} {A : Nat → Prop} {f f2 f3 : Nat → Option va_E} {T : Nat → Option (List Int32)} {md oa : Nat} {ad : Nat → Nat} {g : Nat → Int64} {e0 : va_E} (h1 : f md = none) (h2 : mdI cI cZ (va_up f md (some e0)) f2 md ad) (h3 : f2 oa = none) (h4 : f3 = va_up f2 oa (some (.inl (cJ, 1, .inr (.inl g))))) {H : Heap} (hP : picF D cC A (f3, T) H) : picL D cC cI cZ cJ md oa ad A ((f, T), (I0, fun _ _ => 0), g) H := by
  obtain ⟨ar, ln, gg, p1, ⟨p2, p3, p4, p5⟩⟩ := hP
  dsimp only at p1 p2 p3 p4 p5
  obtain ⟨g1, g2, g3, g4⟩ := h2
  have omd : oa ≠ md := fun z => by rw [z, g1] at h3; cases h3
  have oad : ∀ j, isArr j = true → oa ≠ ad j := fun j hj z => by rw [z, (g2 j hj).1] at h3; cases h3
  have fmd : f3 md = some (.inr (12, mdL ad I0)) := by rw [h4, va_up_other _ _ _ (Ne.symm omd)]; exact g1
  have foa : f3 oa = some (.inl (cJ, 1, .inr (.inl g))) := by rw [h4, va_up_same]
  have fad : ∀ j, isArr j = true → f3 (ad j) = some (eM cI cZ j) := fun j hj => by rw [h4, va_up_other _ _ _ (Ne.symm (oad j hj))]; exact (g2 j hj).1
  have fad0 : ∀ j, isArr j = true → f (ad j) = none := fun j hj => by have h9 := (g2 j hj).2.1; rw [va_up_other _ _ _ (g2 j hj).2.2] at h9; exact h9
  have foa0 : f oa = none := by
    cases hz : f oa with
    | none => rfl
    | some e9 =>
      have h9 := g4 oa (by rw [va_up_other _ _ _ omd, hz]; intro z; cases z) omd
      rw [va_up_other _ _ _ omd, hz, h3] at h9
      cases h9
  have keep : ∀ p e, f p = some e → f3 p = some e := fun p e hp => by
    have q1 : p ≠ md := fun z => by rw [z, h1] at hp; cases hp
    have q2 : p ≠ oa := fun z => by rw [z, foa0] at hp; cases hp
    rw [h4, va_up_other _ _ _ q2, g4 p (by rw [va_up_other _ _ _ q1, hp]; intro z; cases z) q1, va_up_other _ _ _ q1]
    exact hp
  have far : ∀ q, A q → f3 q = none → AF md oa ad A q := fun q hq hz => ⟨hq, fun z => (by rw [z, fmd] at hz; cases hz), fun z => (by rw [z, foa] at hz; cases hz), fun j hj z => (by rw [z, fad j hj] at hz; cases hz)⟩
  refine ⟨⟨ar, ln, gg, p1, ⟨fun q e hq => ?_, fun t q hq => ?_, p4, fun t q hq => ?_⟩⟩, ⟨⟨(p2 md _ fmd).1, (p2 md _ fmd).2⟩, fun j hj => ⟨(p2 _ _ (fad j hj)).1, (p2 _ _ (fad j hj)).2⟩, fun j hj => (g2 j hj).2.2, g3⟩, ⟨(p2 oa _ foa).1, (p2 oa _ foa).2⟩, omd, oad⟩
  · have hq9 : f q = some e := hq
    exact ⟨⟨(p2 q e (keep q e hq9)).1, fun z => (by rw [z, h1] at hq9; cases hq9), fun z => (by rw [z, foa0] at hq9; cases hq9), fun j hj z => (by rw [z, fad0 j hj] at hq9; cases hq9)⟩, (p2 q e (keep q e hq9)).2⟩
  · obtain ⟨b1, b2, b3⟩ := p3 t q hq
    obtain ⟨c1, c2, c3⟩ := p5 t q hq
    exact ⟨far t b1 c2, far q b2 c3, b3⟩
  · obtain ⟨c1, c2, c3⟩ := p5 t q hq
    refine ⟨c1, ?_, ?_⟩
    · show f t = none
      cases hz : f t with
      | none => rfl
      | some e9 => have h9 := keep t e9 hz; rw [h9] at c2; cases c2
    · show f q = none
      cases hz : f q with
      | none => rfl
      | some e9 => have h9 := keep q e9 hz; rw [h9] at c3; cases c3
