/-! ===== rules: performAll, end ===== -/
theorem wwX11_performAll_cl108 : Cond.classLink RX11 108 RX0 ∈ wsX11_performAll := by decide +kernel
theorem wfX11_end_19 : Cond.fieldLink RX11 19 "FieldScribe" (TX11 1).2.1 (TX11 1).2.2.1 ∈ wsX11_end := by decide +kernel
theorem wiX11_end_X11 : ∀ w ∈ u_ws RX11 TX11 9, w ∈ wsX11_end := by decide +kernel
theorem wiX11_end_X4 : ∀ w ∈ u_ws RX4 TX4 5, w ∈ wsX11_end := by decide +kernel
theorem wfX11_end_47 : Cond.fieldLink RX11 47 "FieldScribe" (TX11 5).2.1 (TX11 5).2.2.1 ∈ wsX11_end := by decide +kernel
theorem wfX11_end_12 : Cond.fieldLink RX11 12 "FieldScribe" (TX11 0).2.1 (TX11 0).2.2.1 ∈ wsX11_end := by decide +kernel
theorem wwX11_end_cl74 : Cond.classLink RX11 74 RX7 ∈ wsX11_end := by decide +kernel
theorem wiX11_end_X7 : ∀ w ∈ u_ws RX7 TX7 5, w ∈ wsX11_end := by decide +kernel
def rulesS (sep rnum : Int32) : List Rl → Nat → WS → Int32 → Int32 × List Rl × WS
  | [], _, w, tk => (tk, [], w)
  | R :: t, i, w, tk =>
    if patB R.1.1 R.1.2.1 R.1.2.2 R.2.1 (fld sep w.1) = true then
      if (actsS sep rnum R.2.2 w).1 = true then
        ((rulesS sep rnum t (i + 1) (actsS sep rnum R.2.2 w).2 (tk ||| (1 <<< (nI i &&& 31)))).1, (R.1, patO R.1.1 R.1.2.1 R.1.2.2 R.2.1 (fld sep w.1), R.2.2) :: (rulesS sep rnum t (i + 1) (actsS sep rnum R.2.2 w).2 (tk ||| (1 <<< (nI i &&& 31)))).2.1, (rulesS sep rnum t (i + 1) (actsS sep rnum R.2.2 w).2 (tk ||| (1 <<< (nI i &&& 31)))).2.2)
      else (tk ||| (1 <<< (nI i &&& 31)), (R.1, patO R.1.1 R.1.2.1 R.1.2.2 R.2.1 (fld sep w.1), R.2.2) :: t, (actsS sep rnum R.2.2 w).2)
    else ((rulesS sep rnum t (i + 1) w tk).1, (R.1, patO R.1.1 R.1.2.1 R.1.2.2 R.2.1 (fld sep w.1), R.2.2) :: (rulesS sep rnum t (i + 1) w tk).2.1, (rulesS sep rnum t (i + 1) w tk).2.2)
theorem alI.kp {f f' : Nat → Option va_E} {z0 : Nat} {cO : ClassId} {al ea : Nat} {xs : List Nat} {ns : List Nat} (h : alI f z0 cO al ea xs) (k : kpN ns f f') (n1 : 0 ∉ ns) (n2 : 110 ∉ ns) : alI f' z0 cO al ea xs := by
  obtain ⟨⟨mc, h1⟩, h2, h3⟩ := h
  refine ⟨⟨mc, k _ _ h1 n1⟩, h2, ?_⟩
  split
  · rename_i hx; rw [if_pos hx] at h3; exact h3
  · rename_i hx
    rw [if_neg hx] at h3
    obtain ⟨rf, h4, h5⟩ := h3
    exact ⟨rf, k _ _ h4 n2, h5⟩
abbrev ac0 : Ac := (0, 0, 0, 0, 0)
abbrev rl0 : Rl := ((0, 0, 0), false, [])
def acsI (f : Nat → Option va_E) (T : Nat → Option (List Int32)) (cI : ClassId) (lab : Nat → Nat) (acs : List Nat) (cs : List Ac) : Prop := acs.length = cs.length ∧ ∀ j, j < acs.length → acI f T cI lab (acs.getD j 0) (cs.getD j ac0)
theorem acsI.kp {f f' : Nat → Option va_E} {T T' : Nat → Option (List Int32)} {cI : ClassId} {lab : Nat → Nat} {acs : List Nat} {cs : List Ac} {ns ms : List Nat} (h : acsI f T cI lab acs cs) (k : kpN ns f f') (t : lpT lab ms T T') (n1 : 1 ∉ ns) (n2 : 2 ∉ ns) (n3 : 3 ∉ ns) (n4 : 102 ∉ ns) (n5 : 106 ∉ ns) : acsI f' T' cI lab acs cs := ⟨h.1, fun j hj => (h.2 j hj).kp k t n1 n2 n3 n4 n5⟩
/-- a rule's object; its cells bear the label m -/
def ruI (f : Nat → Option va_E) (T : Nat → Option (List Int32)) (z0 : Nat) (cI cO : ClassId) (lab lf : Nat → Nat) (m ru : Nat) (R : Rl) : Prop :=
  ∃ als ae acs, f ru = ruE R.1.1 R.1.2.1 R.1.2.2 als R.2.1 ∧ lf ru = m ∧ okPat R.1.1 R.1.2.1 R.1.2.2 ∧ alI f z0 cO als ae acs ∧ lf als = m ∧ (acs ≠ [] → lf ae = m) ∧ acsI f T cI lab acs R.2.2
theorem ruI.kp {f f' : Nat → Option va_E} {T T' : Nat → Option (List Int32)} {z0 : Nat} {cI cO : ClassId} {lab lf : Nat → Nat} {m ru : Nat} {R : Rl} {ns ms : List Nat} (h : ruI f T z0 cI cO lab lf m ru R) (k : kpN ns f f') (t : lpT lab ms T T') (n0 : 0 ∉ ns) (n1 : 1 ∉ ns) (n2 : 2 ∉ ns) (n3 : 3 ∉ ns) (n4 : 102 ∉ ns) (n5 : 106 ∉ ns) (n6 : 7 ∉ ns) (n7 : 110 ∉ ns) : ruI f' T' z0 cI cO lab lf m ru R := by
  obtain ⟨als, ae, acs, h1, h2, h3, h4, h5, h6, h7⟩ := h
  exact ⟨als, ae, acs, k _ _ h1 n6, h2, h3, h4.kp k n0 n7, h5, h6, h7.kp k t n1 n2 n3 n4 n5⟩
def rI (f : Nat → Option va_E) (T : Nat → Option (List Int32)) (z0 : Nat) (cI cO : ClassId) (lab lf : Nat → Nat) (pr : Nat) (rls : List Rl) : Prop :=
  ∃ pe rus, alI f z0 cO pr pe rus ∧ lf pr = 0 ∧ (rus ≠ [] → lf pe = 0) ∧ rus.length = rls.length ∧ ∀ i, i < rus.length → ruI f T z0 cI cO lab lf (i + 1) (rus.getD i 0) (rls.getD i rl0)
theorem rI.kp {f f' : Nat → Option va_E} {T T' : Nat → Option (List Int32)} {z0 : Nat} {cI cO : ClassId} {lab lf : Nat → Nat} {pr : Nat} {rls : List Rl} {ns ms : List Nat} (h : rI f T z0 cI cO lab lf pr rls) (k : kpN ns f f') (t : lpT lab ms T T') (n0 : 0 ∉ ns) (n1 : 1 ∉ ns) (n2 : 2 ∉ ns) (n3 : 3 ∉ ns) (n4 : 102 ∉ ns) (n5 : 106 ∉ ns) (n6 : 7 ∉ ns) (n7 : 110 ∉ ns) : rI f' T' z0 cI cO lab lf pr rls := by
  obtain ⟨pe, rus, h1, h2, h3, h4, h5⟩ := h
  exact ⟨pe, rus, h1.kp k n0 n7, h2, h3, h4, fun i hi => (h5 i hi).kp k t n0 n1 n2 n3 n4 n5 n6 n7⟩
theorem rI.op {f : Nat → Option va_E} {T : Nat → Option (List Int32)} {z0 : Nat} {cI cO : ClassId} {lab lf : Nat → Nat} {pr pe : Nat} {rus : List Nat} {rls : List Rl} (h1 : alI f z0 cO pr pe rus) (h2 : lf pr = 0) (h3 : rus ≠ [] → lf pe = 0) (h4 : rus.length = rls.length) (h5 : ∀ i, i < rus.length → ruI f T z0 cI cO lab lf (i + 1) (rus.getD i 0) (rls.getD i rl0)) {i als : Nat} (hi : i < rus.length) {R : Rl} (hR : rls.getD i rl0 = R) (hru : f (rus.getD i 0) = ruE R.1.1 R.1.2.1 R.1.2.2 als R.2.1) (op : Bool) :
    rI (va_up f (rus.getD i 0) (ruE R.1.1 R.1.2.1 R.1.2.2 als op)) T z0 cI cO lab lf pr (rls.set i (R.1, op, R.2.2)) := by
  have k : kpN [7] f (va_up f (rus.getD i 0) (ruE R.1.1 R.1.2.1 R.1.2.2 als op)) := kpN_up hru (by simp [kdn]) _
  refine ⟨pe, rus, h1.kp k (by decide) (by decide), h2, h3, by rw [List.length_set]; exact h4, fun j hj => ?_⟩
  obtain ⟨als2, ae, acs, g1, g2, g3, g4, g5, g6, g7⟩ := h5 j hj
  have g4' := g4.kp k (by decide) (by decide)
  have g7' := g7.kp (ms := []) k lpT.rf (by decide) (by decide) (by decide) (by decide) (by decide)
  by_cases hji : j = i
  · subst hji
    have e1 : (rls.set j (R.1, op, R.2.2)).getD j rl0 = (R.1, op, R.2.2) := by simp [List.getD_eq_getElem?_getD, ← h4, hj]
    rw [e1]
    rw [hR] at g1 g3 g7'
    have e2 : als2 = als := by rw [g1] at hru; cases hru; rfl
    subst e2
    exact ⟨als2, ae, acs, va_up_same _ _ _, g2, g3, g4', g5, g6, g7'⟩
  · have e1 : (rls.set i (R.1, op, R.2.2)).getD j rl0 = rls.getD j rl0 := by simp [List.getD_eq_getElem?_getD, List.getElem?_set_ne (Ne.symm hji)]
    rw [e1]
    have g9 : lf (rus.getD i 0) = i + 1 := by obtain ⟨_, _, _, _, q, _⟩ := h5 i hi; exact q
    exact ⟨als2, ae, acs, by rw [va_up_other _ _ _ (fun z => by rw [z, g9] at g2; omega)]; exact g1, g2, g3, g4', g5, g6, g7'⟩
theorem wI.kp {f f' : Nat → Option va_E} {T T' : Nat → Option (List Int32)} {cT cR : ClassId} {a na lab : Nat → Nat} {sep rnum : Int32} {typ : List Int32} {stk : Bool} {w : WS} {ns ms : List Nat} (h : wI f T cT cR a na lab sep rnum typ stk w) (hL : labI a lab) (k : kpN ns f f') (t : lpT lab ms T T') (n : ns.all (fun z => !([11, 4, 112, 9, 120, 6, 5, 140, 8, 102] : List Nat).contains z) = true) (m : ms.all (fun z => !([1, 2, 3, 7, 8] : List Nat).contains z) = true) : wI f' T' cT cR a na lab sep rnum typ stk w := by
  have hn : ∀ z, z ∈ ([11, 4, 112, 9, 120, 6, 5, 140, 8, 102] : List Nat) → z ∉ ns := fun z hz hz2 => by
    have := List.all_eq_true.mp n z hz2
    simp at this hz
    omega
  have hm : ∀ z, z ∈ ([1, 2, 3, 7, 8] : List Nat) → z ∉ ms := fun z hz hz2 => by
    have := List.all_eq_true.mp m z hz2
    simp at this hz
    omega
  obtain ⟨h1, h2, h3, h4, h5, h6, h7⟩ := h
  exact ⟨k _ _ h1 (hn 11 (by decide)), h2.kp hL k t (hn 4 (by decide)) (hn 112 (by decide)) (hm 1 (by decide)) (hm 2 (by decide)), h3.kp k t (hn 9 (by decide)) (hn 120 (by decide)) (hn 6 (by decide)) (hm 8 (by decide)), h4.kp hL k t (hn 5 (by decide)) (hn 140 (by decide)) (hm 7 (by decide)), h5.kp k t (hn 8 (by decide)) (hn 102 (by decide)), by rw [t.1 _ (by rw [hL.2.2.1]; exact hm 3 (by decide))]; exact h6, t.2 _ h7⟩
def finS (sep rnum : Int32) (g : Bool) (dn rest : List Rl) (i : Nat) (w : WS) (tk : Int32) : Int32 × List Rl × WS := if g = true then ((rulesS sep rnum rest i w tk).1, dn ++ (rulesS sep rnum rest i w tk).2.1, (rulesS sep rnum rest i w tk).2.2) else (tk, dn ++ rest, w)
theorem finS_no {sep rnum : Int32} {dn t : List Rl} {R : Rl} {i : Nat} {w : WS} {tk : Int32} (h : patB R.1.1 R.1.2.1 R.1.2.2 R.2.1 (fld sep w.1) = false) : finS sep rnum true dn (R :: t) i w tk = finS sep rnum true (dn ++ [(R.1, patO R.1.1 R.1.2.1 R.1.2.2 R.2.1 (fld sep w.1), R.2.2)]) t (i + 1) w tk := by
  unfold finS
  rw [if_pos rfl, if_pos rfl]
  have e : rulesS sep rnum (R :: t) i w tk = ((rulesS sep rnum t (i + 1) w tk).1, (R.1, patO R.1.1 R.1.2.1 R.1.2.2 R.2.1 (fld sep w.1), R.2.2) :: (rulesS sep rnum t (i + 1) w tk).2.1, (rulesS sep rnum t (i + 1) w tk).2.2) := by
    rw [rulesS, if_neg (by rw [h]; decide)]
  rw [e]
  simp
theorem finS_yes {sep rnum : Int32} {dn t : List Rl} {R : Rl} {i : Nat} {w : WS} {tk : Int32} (h : patB R.1.1 R.1.2.1 R.1.2.2 R.2.1 (fld sep w.1) = true) : finS sep rnum true dn (R :: t) i w tk = finS sep rnum (actsS sep rnum R.2.2 w).1 (dn ++ [(R.1, patO R.1.1 R.1.2.1 R.1.2.2 R.2.1 (fld sep w.1), R.2.2)]) t (i + 1) (actsS sep rnum R.2.2 w).2 (tk ||| (1 <<< (nI i &&& 31))) := by
  unfold finS
  rw [if_pos rfl]
  by_cases h2 : (actsS sep rnum R.2.2 w).1 = true
  · rw [if_pos h2]
    have e : rulesS sep rnum (R :: t) i w tk = ((rulesS sep rnum t (i + 1) (actsS sep rnum R.2.2 w).2 (tk ||| (1 <<< (nI i &&& 31)))).1, (R.1, patO R.1.1 R.1.2.1 R.1.2.2 R.2.1 (fld sep w.1), R.2.2) :: (rulesS sep rnum t (i + 1) (actsS sep rnum R.2.2 w).2 (tk ||| (1 <<< (nI i &&& 31)))).2.1, (rulesS sep rnum t (i + 1) (actsS sep rnum R.2.2 w).2 (tk ||| (1 <<< (nI i &&& 31)))).2.2) := by
      rw [rulesS, if_pos h, if_pos h2]
    rw [e]
    simp
  · rw [if_neg h2]
    have e : rulesS sep rnum (R :: t) i w tk = (tk ||| (1 <<< (nI i &&& 31)), (R.1, patO R.1.1 R.1.2.1 R.1.2.2 R.2.1 (fld sep w.1), R.2.2) :: t, (actsS sep rnum R.2.2 w).2) := by
      rw [rulesS, if_pos h, if_neg h2]
    rw [e]
    simp
theorem set_mid {α : Type} (dn t : List α) (R R' : α) : (dn ++ R :: t).set dn.length R' = (dn ++ [R']) ++ t := by
  rw [List.set_append_right _ _ (Nat.le_refl _), Nat.sub_self]
  simp
section EN
variable {l : Launch} {D : va_G} {tys : List (ClassId × FieldType)} {z0 : Nat} {A : Nat → Prop} {cC cT cR cI cO : ClassId} {f : Nat → Option va_E} {T : Nat → Option (List Int32)} {a na lab lf : Nat → Nat} {sep rnum : Int32} {typ : List Int32} {stk : Bool} {w : WS} {als ae : Nat} {acs : List Nat} {cs : List Ac} {rls : List Rl}
set_option maxRecDepth 100000 in
set_option maxHeartbeats 8000000 in
theorem k_performAll (ht : tys[0]? = some (cC, .char)) (ht1 : tys[1]? = some (cI, .int)) (ht3 : tys[3]? = some (cR, .object RX6)) (ht4 : tys[4]? = some (cT, .object RX10)) (ht5 : tys[5]? = some (cO, .object "java/lang/Object")) (hW : wI f T cT cR a na lab sep rnum typ stk w) (hL : labI a lab) (hsep : ch sep) (hal : alI f z0 cO als ae acs) (hA : acsI f T cI lab acs cs) : ct D tys z0 A (picF D cC A) l yX11_performAll wsX11_performAll (rmL 9 156) [.ref (a 0), .ref als] (f, T) (qI (picF D cC A) A (fun q x => ∃ f' T', x = (f', T') ∧ kpN nsP f f' ∧ lpT lab lsP T T' ∧ q = bI (actsS sep rnum cs w).1 ∧ wI f' T' cT cR a na lab sep rnum typ stk (actsS sep rnum cs w).2)) := by
  refine ct_of RX11 (by decide +kernel) rfl rfl (Nat.le_of_ble_eq_true rfl) ?_
  intro p e s m below meth c C hr hm
  refine v_lv (lv' := [(0, _), (1, _)]) rfl ?_
  refine v_iconst C dX11_performAll_0 (v := 0) (by decide) ?_
  refine v_istore_n C dX11_performAll_1 rfl (by decide) (lv' := [(2, _), (0, _), (1, _)]) rfl ?_
  obtain ⟨i, f1, T1, w1, hi, e1, e2, e3⟩ : ∃ (i : Nat) (f1 : Nat → Option va_E) (T1 : Nat → Option (List Int32)) (w1 : WS), i = 0 ∧ f1 = f ∧ T1 = T ∧ w1 = w := ⟨_, _, _, _, rfl, rfl, rfl, rfl⟩
  refine v_x (x' := (f1, T1)) (fun H hP => by rw [e1, e2]; exact hP) ?_
  refine v_lv (lv' := [(2, .int (nI i)), (0, _), (1, _)]) (by rw [hi]; rfl) ?_
  have hk : kpN nsP f f1 := by rw [e1]; exact kpN.rf
  have hlp : lpT lab lsP T T1 := by rw [e2]; exact lpT.rf
  have hW1 : wI f1 T1 cT cR a na lab sep rnum typ stk w1 := by rw [e1, e2, e3]; exact hW
  have hS : actsS sep rnum cs w = actsS sep rnum (cs.drop i) w1 := by rw [hi, e3]; rfl
  have hil : i ≤ acs.length := by omega
  have hx10 := hal.2.1
  clear hi e1 e2 e3
  induction hd : (acs.length - i) using Nat.strongRecOn generalizing i f1 T1 w1 with | _ d ih =>
    have hal1 := hal.kp hk (by decide) (by decide)
    obtain ⟨⟨mc9, hal9⟩, -⟩ := hal1
    have hal1 := hal.kp hk (by decide) (by decide)
    refine v_iload_n C dX11_performAll_2 (j := 0) rfl rfl ?_
    refine v_aload_n C dX11_performAll_3 (j := 2) rfl rfl ?_
    refine v_ci (v_runV C (k_lsize hal1) (cwV 0 C.1.2.2.2.2 gX11_performAll_Jx4a65c_size_8abf5 rfl rfl rfl (by decide +kernel) ⟨Nat.le_of_ble_eq_true rfl, Nat.le_of_ble_eq_true rfl⟩) rfl rfl ((FF_get hal9 (k := 0) rfl).gC) dX11_performAll_4 (rest := [_]) (Nat.le_of_ble_eq_true rfl) rfl ⟨(by first | exact Nat.le_of_ble_eq_true rfl | (dsimp only; omega)), (by first | exact Nat.le_of_ble_eq_true rfl | (dsimp only; omega))⟩) (fun q x' hx' => ?_)
    obtain ⟨rfl, rfl⟩ := hx'
    refine v_icmp_ge C 33 dX11_performAll_7 (by decide) (fun c1 => ?_) (fun c1 => ?_)
    · skip
      have c2 := le_of c1 (by omega) (by omega)
      refine v_iconst C dX11_performAll_33 (v := 1) (by decide) ?_
      exact v_ireturn C dX11_performAll_34 hr (rfl) (Nat.le_of_ble_eq_true rfl) (Nat.le_of_ble_eq_true rfl) (⟨_, _, rfl, hk, hlp, by rw [hS, List.drop_of_length_le (by rw [← hA.1]; omega)]; rfl, by rw [hS, List.drop_of_length_le (by rw [← hA.1]; omega)]; exact hW1⟩)
    · skip
      have c2 : i < acs.length := lt_ofn c1 (by omega) (by omega)
      refine v_aload_n C dX11_performAll_10 (j := 1) rfl rfl ?_
      refine v_aload_n C dX11_performAll_11 (j := 2) rfl rfl ?_
      refine v_iload_n C dX11_performAll_12 (j := 0) rfl rfl ?_
      refine v_cr (v_runV C (k_lget ht5 hal1 c2) (cwV 1 C.1.2.2.2.2 gX11_performAll_Jx4a65c_get_915e3 rfl rfl rfl (by decide +kernel) ⟨Nat.le_of_ble_eq_true rfl, Nat.le_of_ble_eq_true rfl⟩) rfl rfl ((FF_get hal9 (k := 0) rfl).gC) dX11_performAll_13 (rest := [_]) (Nat.le_of_ble_eq_true rfl) rfl ⟨(by first | exact Nat.le_of_ble_eq_true rfl | (dsimp only; omega)), (by first | exact Nat.le_of_ble_eq_true rfl | (dsimp only; omega))⟩) (fun r x' hx' => ?_)
      obtain ⟨rfl, rfl⟩ := hx'
      have hac := (hA.2 i c2).kp hk hlp (by decide) (by decide) (by decide) (by decide) (by decide)
      have hac2 := hac
      obtain ⟨tr9, cd9, sc9, g1, -⟩ := hac2
      refine v_castS C (ci := 1) (r := (RX0, TX0, 4)) dX11_performAll_16 rfl wwX11_performAll_cl108 ((FF_get g1 (k := 0) rfl).gC) ?_
      refine v_ci (v_runV C (k_perform ht ht1 ht3 ht4 hW1 hL hsep hac) (cwV 1 C.1.2.2.2.2 gX11_performAll_X11_perform rfl rfl rfl (by decide +kernel) ⟨Nat.le_of_ble_eq_true rfl, Nat.le_of_ble_eq_true rfl⟩) rfl rfl ((FF_get hW1.1 (k := 0) rfl).gC) dX11_performAll_19 (rest := []) (Nat.le_of_ble_eq_true rfl) rfl ⟨(by first | exact Nat.le_of_ble_eq_true rfl | (dsimp only; omega)), (by first | exact Nat.le_of_ble_eq_true rfl | (dsimp only; omega))⟩) (fun q x' hx' => ?_)
      obtain ⟨f2, T2, rfl, k2, l2, h2⟩ := hx'
      have hdrop : cs.drop i = cs.getD i ac0 :: cs.drop (i + 1) := dropc ac0 (by rw [← hA.1]; exact c2)
      by_cases h4 : (cs.getD i ac0).1 = 4
      · skip
        rw [if_pos h4] at h2
        obtain ⟨rfl, h3⟩ := h2
        refine v_if_ne C 27 dX11_performAll_22 (by decide) (fun c3 => absurd c3 (by intro; exact c3 rfl)) (fun c3 => ?_)
        refine v_iconst C dX11_performAll_25 (v := 0) (by decide) ?_
        exact v_ireturn C dX11_performAll_26 hr (rfl) (Nat.le_of_ble_eq_true rfl) (Nat.le_of_ble_eq_true rfl) (⟨_, _, rfl, hk.tr k2, hlp.tr l2, by rw [hS, hdrop]; unfold actsS; rw [if_pos h4]; rfl, by rw [hS, hdrop]; unfold actsS; rw [if_pos h4]; exact h3⟩)
      · skip
        rw [if_neg h4] at h2
        obtain ⟨rfl, h3⟩ := h2
        refine v_if_ne C 27 dX11_performAll_22 (by decide) (fun c3 => ?_) (fun c3 => absurd c3 (by intro h; exact absurd h (by decide)))
        refine v_iinc C dX11_performAll_27 (j := 0) (v := _ + 1) rfl rfl (by decide) (lv' := [(2, _), (0, _), (1, _)]) rfl ?_
        refine v_goto C 2 dX11_performAll_30 (by decide) ?_
        rw [nI_1]
        exact ih (acs.length - (i + 1)) (by omega) (i + 1) _ _ _ (hk.tr k2) (hlp.tr l2) h3 (by rw [hS, hdrop]; conv => lhs; unfold actsS; rw [if_neg h4]) (by omega) rfl
set_option maxRecDepth 100000 in
set_option maxHeartbeats 16000000 in
theorem k_end (ht : tys[0]? = some (cC, .char)) (ht1 : tys[1]? = some (cI, .int)) (ht3 : tys[3]? = some (cR, .object RX6)) (ht4 : tys[4]? = some (cT, .object RX10)) (ht5 : tys[5]? = some (cO, .object "java/lang/Object")) (hW : wI f T cT cR a na lab sep rnum typ stk w) (hL : labI a lab) (hsep : ch sep) (hR : rI f T z0 cI cO lab lf (a 1) rls) : ct D tys z0 A (picF D cC A) l yX11_end wsX11_end (rmL 10 178) [.ref (a 0)] (f, T) (qI (picF D cC A) A (fun q x => ∃ f' T', x = (f', T') ∧ q = (rulesS sep (rnum + 1) rls 0 (typ, w.2) 0).1 ∧ wI f' T' cT cR a na lab sep (rnum + 1) [] stk (rulesS sep (rnum + 1) rls 0 (typ, w.2) 0).2.2 ∧ rI f' T' z0 cI cO lab lf (a 1) (rulesS sep (rnum + 1) rls 0 (typ, w.2) 0).2.1)) := by
  have hW2 := hW
  obtain ⟨h1, ⟨h2, h2t⟩, h3, h4, h5, h6, ⟨v0, h7⟩⟩ := hW2
  have hL2 := hL
  obtain ⟨b1, b2, b3, b4, b5, b6, b7, b8, b9⟩ := hL2
  refine ct_of RX11 (by decide +kernel) rfl rfl (Nat.le_of_ble_eq_true rfl) ?_
  intro p e s m below meth c C hr hm
  refine v_lv (lv' := [(0, _)]) rfl ?_
  refine v_aload_n C dX11_end_0 (j := 0) rfl rfl ?_
  refine v_get C (T := TX11) (ci := 11) (j := 1) dX11_end_1 wiX11_end_X11 rfl (by decide) wfX11_end_19 (fun _ h => h) (FF_get h1 rfl) ?_
  refine v_dup C dX11_end_4 rfl ?_
  refine v_getN C (T := TX4) (ci := 4) (j := 4) dX11_end_5 wiX11_end_X4 rfl (by decide) (v_nw C 28 rfl) (fun _ h => h) (FF_get h2.1 rfl) ?_
  refine v_iconst C dX11_end_8 (v := 1) (by decide) ?_
  refine v_iadd C dX11_end_9 ?_
  refine v_putN C (T := TX4) (ci := 4) (j := 4) (ty := .int) dX11_end_10 wiX11_end_X4 tyX4 tyX4_ok nmX4 rfl (by decide) (v_nw C 28 rfl) (fun _ h => h) rfl rfl (rfl) (rfl) (FF_put h2.1 (Nat.le_of_ble_eq_true rfl)) ?_
  have k1 : kpN [4] f (va_up f (a 2) (pgE (a 3) (a 4) sep (nI (nfd sep w.1)) (rnum + 1))) := kpN_up h2.1 (by simp [kdn]) _
  have g1 := k1 _ _ h1 (by simp [kdn])
  have g2 : pgO (va_up f (a 2) (pgE (a 3) (a 4) sep (nI (nfd sep w.1)) (rnum + 1))) cT (a 2) (a 3) (a 4) (pcA a) sep (nI (nfd sep w.1)) (rnum + 1) := ⟨va_up_same _ _ _, by obtain ⟨pf, q1, q2⟩ := h2.2; exact ⟨pf, k1 _ _ q1 (by simp [kdn]), q2⟩⟩
  refine v_aload_n C dX11_end_13 (j := 0) rfl rfl ?_
  refine v_get C (T := TX11) (ci := 11) (j := 1) dX11_end_14 wiX11_end_X11 rfl (by decide) wfX11_end_19 (fun _ h => h) (FF_get g1 rfl) ?_
  refine v_iconst C dX11_end_17 (v := 0) (by decide) ?_
  refine v_int (b := nI 0) rfl ?_
  refine v_aload_n C dX11_end_18 (j := 0) rfl rfl ?_
  refine v_get C (T := TX11) (ci := 11) (j := 5) dX11_end_19 wiX11_end_X11 rfl (by decide) wfX11_end_47 (fun _ h => h) (FF_get g1 rfl) ?_
  refine v_cv (v_runV C (k_pset ht ht4 g2 b8 hsep h2t (k := 0) (by decide) h6 (fun z => by have := b1; rw [← z, b3] at this; cases this) (fun k hk z => by have := b2 k hk; rw [← z, b3] at this; cases this)) (cwV 2 C.1.2.2.2.2 gX11_end_X4_set rfl rfl rfl (by decide +kernel) ⟨Nat.le_of_ble_eq_true rfl, Nat.le_of_ble_eq_true rfl⟩) rfl rfl ((FF_get g2.1 (k := 0) rfl).gC) dX11_end_22 (rest := []) (Nat.le_of_ble_eq_true rfl) rfl ⟨(by first | exact Nat.le_of_ble_eq_true rfl | (dsimp only; omega)), (by first | exact Nat.le_of_ble_eq_true rfl | (dsimp only; omega))⟩) (fun x' hx' => ?_)
  obtain ⟨T2, rfl, e1, e2⟩ := hx'
  have e0 : setR sep w.1 0 typ = typ := by unfold setR; rw [if_pos rfl]
  rw [e0] at e1 ⊢
  have k2 : kpN [4] f (va_up (va_up f (a 2) (pgE (a 3) (a 4) sep (nI (nfd sep w.1)) (rnum + 1))) (a 2) (pgE (a 3) (a 4) sep (nI (nfd sep typ)) (rnum + 1))) := k1.tr (kpN_up g2.1 (by simp [kdn]) _)
  have l2 : lpT lab [1, 2] T T2 := ⟨fun p hp => e2 p (fun z => hp (by rw [z, b1]; decide)) (fun k hk z => hp (by rw [z, b2 k hk]; decide)), fun p hp => by
      by_cases z : p = a 3
      · rw [z]; exact ⟨_, e1.1⟩
      · by_cases z2 : ∃ k, k < 12 ∧ p = pcA a k
        · obtain ⟨k, hk, rfl⟩ := z2; exact ⟨_, e1.2 k hk⟩
        · rw [e2 p z (fun k hk zz => z2 ⟨k, hk, zz⟩)]; exact hp⟩
  have g3 := k2 _ _ h1 (by simp [kdn])
  have h6' : T2 (a 11) = some typ := by rw [l2.1 _ (by rw [b3]; decide)]; exact h6
  refine v_aload_n C dX11_end_25 (j := 0) rfl rfl ?_
  refine v_get C (T := TX11) (ci := 11) (j := 5) dX11_end_26 wiX11_end_X11 rfl (by decide) wfX11_end_47 (fun _ h => h) (FF_get g3 rfl) ?_
  refine v_cv (v_runV C (k_clear h6') (cwV 0 C.1.2.2.2.2 gX11_end_X10_clear rfl rfl rfl (by decide +kernel) ⟨Nat.le_of_ble_eq_true rfl, Nat.le_of_ble_eq_true rfl⟩) rfl rfl (FF_txt h6') dX11_end_29 (rest := []) (Nat.le_of_ble_eq_true rfl) rfl ⟨(by first | exact Nat.le_of_ble_eq_true rfl | (dsimp only; omega)), (by first | exact Nat.le_of_ble_eq_true rfl | (dsimp only; omega))⟩) (fun x' hx' => ?_)
  subst hx'
  refine v_iconst C dX11_end_32 (v := 0) (by decide) ?_
  refine v_istore_n C dX11_end_33 rfl (by decide) (lv' := [(1, _), (0, _)]) rfl ?_
  refine v_iconst C dX11_end_34 (v := 1) (by decide) ?_
  refine v_istore_n C dX11_end_35 rfl (by decide) (lv' := [(2, _), (1, _), (0, _)]) rfl ?_
  refine v_iconst C dX11_end_36 (v := 0) (by decide) ?_
  refine v_istore_n C dX11_end_37 rfl (by decide) (lv' := [(3, _), (2, _), (1, _), (0, _)]) rfl ?_
  have l3 : lpT lab [1, 2, 3] T (va_up T2 (a 11) (some [])) := (l2.mo (by decide)).tr (lpT_up (by rw [b3]; decide) _)
  obtain ⟨f1, hf1⟩ : ∃ f1, f1 = va_up (va_up f (a 2) (pgE (a 3) (a 4) sep (nI (nfd sep w.1)) (rnum + 1))) (a 2) (pgE (a 3) (a 4) sep (nI (nfd sep typ)) (rnum + 1)) := ⟨_, rfl⟩
  obtain ⟨T1, hT1⟩ : ∃ T1, T1 = va_up T2 (a 11) (some []) := ⟨_, rfl⟩
  refine v_x (x' := (f1, T1)) (fun H hP => by rw [hf1, hT1]; exact hP) ?_
  have hW1 : wI f1 T1 cT cR a na lab sep (rnum + 1) [] stk (typ, w.2) := by
      rw [hf1, hT1]
      refine ⟨k2 _ _ h1 (by simp [kdn]), ⟨⟨va_up_same _ _ _, by obtain ⟨pf, q1, q2⟩ := h2.2; exact ⟨pf, k2 _ _ q1 (by simp [kdn]), q2⟩⟩, ?_⟩, h3.kp k2 l3 (by decide) (by decide) (by decide) (by decide), h4.kp hL k2 l3 (by decide) (by decide) (by decide), h5.kp k2 l3 (by decide) (by decide), va_up_same _ _ _, l3.2 _ ⟨v0, h7⟩⟩
      exact ⟨by rw [va_up_other _ _ _ (fun z => by rw [z, b3] at b1; cases b1)]; exact e1.1, fun j hj => by rw [va_up_other _ _ _ (fun z => by have := b2 j hj; rw [z, b3] at this; cases this)]; exact e1.2 j hj⟩
  have hR1 : rI f1 T1 z0 cI cO lab lf (a 1) rls := by rw [hf1, hT1]; exact hR.kp k2 l3 (by decide) (by decide) (by decide) (by decide) (by decide) (by decide) (by decide) (by decide)
  obtain ⟨i, tk, g, w1, dn, rest, hi, e3, e4, e5, hcur, hdl, hZ⟩ : ∃ (i : Nat) (tk : Int32) (g : Bool) (w1 : WS) (dn rest : List Rl), i = 0 ∧ tk = 0 ∧ g = true ∧ w1 = (typ, w.2) ∧ rls = dn ++ rest ∧ dn.length = i ∧ rulesS sep (rnum + 1) rls 0 (typ, w.2) 0 = finS sep (rnum + 1) g dn rest i w1 tk := ⟨0, 0, true, _, [], rls, rfl, rfl, rfl, rfl, rfl, rfl, by unfold finS; rw [if_pos rfl]; rfl⟩
  rw [← e5] at hW1
  rw [hcur] at hR1
  refine v_lv (lv' := [(3, .int (nI i)), (2, .int (bI g)), (1, .int tk), (0, _)]) (by rw [hi, e3, e4]; rfl) ?_
  rw [hZ]
  clear hi e3 e4 e5 hcur hf1 hT1 hZ
  induction hd : rest.length using Nat.strongRecOn generalizing i tk g w1 dn rest f1 T1 with | _ d ih =>
    refine v_iload_n C dX11_end_38 (j := 1) rfl rfl ?_
    refine v_if_eq C 100 dX11_end_39 (by decide) (fun c1 => ?_) (fun c1 => ?_)
    · skip
      have hg := bI_0 c1
      refine v_iload_n C dX11_end_100 (j := 2) rfl rfl ?_
      exact v_ireturn C dX11_end_101 hr (rfl) (Nat.le_of_ble_eq_true rfl) (Nat.le_of_ble_eq_true rfl) (⟨_, _, rfl, by unfold finS; rw [if_neg (by rw [hg]; decide)], by unfold finS; rw [if_neg (by rw [hg]; decide)]; exact hW1, by unfold finS; rw [if_neg (by rw [hg]; decide)]; exact hR1⟩)
    · skip
      have hg := bI_1 c1
      subst hg
      have hR2 := hR1
      obtain ⟨pe, rus, r1, r2, r3, r4, r5⟩ := hR2
      have r1b := r1
      obtain ⟨⟨mc9, r6⟩, r7, -⟩ := r1b
      simp only [List.length_append] at r4
      refine v_iload_n C dX11_end_42 (j := 0) rfl rfl ?_
      refine v_aload_n C dX11_end_43 (j := 3) rfl rfl ?_
      refine v_get C (T := TX11) (ci := 11) (j := 0) dX11_end_44 wiX11_end_X11 rfl (by decide) wfX11_end_12 (fun _ h => h) (FF_get hW1.1 rfl) ?_
      refine v_ci (v_runV C (k_lsize r1) (cwV 0 C.1.2.2.2.2 gX11_end_Jx4a65c_size_8abf5 rfl rfl rfl (by decide +kernel) ⟨Nat.le_of_ble_eq_true rfl, Nat.le_of_ble_eq_true rfl⟩) rfl rfl ((FF_get r6 (k := 0) rfl).gC) dX11_end_47 (rest := [_]) (Nat.le_of_ble_eq_true rfl) rfl ⟨(by first | exact Nat.le_of_ble_eq_true rfl | (dsimp only; omega)), (by first | exact Nat.le_of_ble_eq_true rfl | (dsimp only; omega))⟩) (fun q x' hx' => ?_)
      obtain ⟨rfl, rfl⟩ := hx'
      refine v_icmp_ge C 100 dX11_end_50 (by decide) (fun c2 => ?_) (fun c2 => ?_)
      · skip
        have c3 := le_of c2 (by omega) (by omega)
        have hre : rest = [] := List.eq_nil_of_length_eq_zero (by omega)
        subst hre
        refine v_iload_n C dX11_end_100 (j := 2) rfl rfl ?_
        exact v_ireturn C dX11_end_101 hr (rfl) (Nat.le_of_ble_eq_true rfl) (Nat.le_of_ble_eq_true rfl) (⟨_, _, rfl, by unfold finS; rw [if_pos rfl]; rfl, by unfold finS; rw [if_pos rfl]; exact hW1, by unfold finS; rw [if_pos rfl]; exact hR1⟩)
      · skip
        have c3 : i < rus.length := lt_ofn c2 (by omega) (by omega)
        obtain ⟨Rr, t9, rfl⟩ : ∃ Rr t9, rest = Rr :: t9 := by
            cases rest with
            | nil => simp at r4; omega
            | cons q t => exact ⟨q, t, rfl⟩
        have hRr : (dn ++ Rr :: t9).getD i rl0 = Rr := by rw [← hdl]; simp [List.getD_eq_getElem?_getD]
        refine v_aload_n C dX11_end_53 (j := 3) rfl rfl ?_
        refine v_get C (T := TX11) (ci := 11) (j := 0) dX11_end_54 wiX11_end_X11 rfl (by decide) wfX11_end_12 (fun _ h => h) (FF_get hW1.1 rfl) ?_
        refine v_iload_n C dX11_end_57 (j := 0) rfl rfl ?_
        refine v_cr (v_runV C (k_lget ht5 r1 c3) (cwV 1 C.1.2.2.2.2 gX11_end_Jx4a65c_get_915e3 rfl rfl rfl (by decide +kernel) ⟨Nat.le_of_ble_eq_true rfl, Nat.le_of_ble_eq_true rfl⟩) rfl rfl ((FF_get r6 (k := 0) rfl).gC) dX11_end_58 (rest := []) (Nat.le_of_ble_eq_true rfl) rfl ⟨(by first | exact Nat.le_of_ble_eq_true rfl | (dsimp only; omega)), (by first | exact Nat.le_of_ble_eq_true rfl | (dsimp only; omega))⟩) (fun r x' hx' => ?_)
        obtain ⟨rfl, rfl⟩ := hx'
        have r8 := r5 i c3
        rw [hRr] at r8
        obtain ⟨als, ae, acs, s1, s2, s3, s4, s5, s6, s7⟩ := r8
        refine v_castS C (ci := 7) (r := (RX7, TX7, 5)) dX11_end_61 rfl wwX11_end_cl74 ((FF_get s1 (k := 0) rfl).gC) ?_
        refine v_astore C dX11_end_64 (by decide) (lv' := [(4, _), (3, _), (2, _), (1, _), (0, _)]) rfl ?_
        refine v_aload C dX11_end_66 (j := 0) rfl ?_
        refine v_aload_n C dX11_end_68 (j := 4) rfl rfl ?_
        refine v_get C (T := TX11) (ci := 11) (j := 1) dX11_end_69 wiX11_end_X11 rfl (by decide) wfX11_end_19 (fun _ h => h) (FF_get hW1.1 rfl) ?_
        refine v_ci (v_runV C (k_isTrue ht ht4 hW1.2.1.1 hW1.2.1.2 s1 s3) (cwV 1 C.1.2.2.2.2 gX11_end_X7_isTrue rfl rfl rfl (by decide +kernel) ⟨Nat.le_of_ble_eq_true rfl, Nat.le_of_ble_eq_true rfl⟩) rfl rfl ((FF_get s1 (k := 0) rfl).gC) dX11_end_72 (rest := []) (Nat.le_of_ble_eq_true rfl) rfl ⟨(by first | exact Nat.le_of_ble_eq_true rfl | (dsimp only; omega)), (by first | exact Nat.le_of_ble_eq_true rfl | (dsimp only; omega))⟩) (fun q x' hx' => ?_)
        obtain ⟨rfl, rfl⟩ := hx'
        have kq : kpN [7] f1 (va_up f1 (rus.getD i 0) (ruE Rr.1.1 Rr.1.2.1 Rr.1.2.2 als (patO Rr.1.1 Rr.1.2.1 Rr.1.2.2 Rr.2.1 (fld sep w1.1)))) := kpN_up s1 (by simp [kdn]) _
        have hW3 := hW1.kp hL kq (lpT.rf (ls := [])) (by decide) (by decide)
        have hR3 := rI.op r1 r2 r3 (by simpa using r4) r5 c3 hRr s1 (patO Rr.1.1 Rr.1.2.1 Rr.1.2.2 Rr.2.1 (fld sep w1.1))
        have e9 := set_mid dn t9 Rr (Rr.1, patO Rr.1.1 Rr.1.2.1 Rr.1.2.2 Rr.2.1 (fld sep w1.1), Rr.2.2)
        rw [hdl] at e9
        rw [e9] at hR3
        refine v_if_eq C 94 dX11_end_75 (by decide) (fun c4 => ?_) (fun c4 => ?_)
        · skip
          refine v_iinc C dX11_end_94 (j := 1) (v := _ + 1) rfl rfl (by decide) (lv' := [(3, _), (4, _), (2, _), (1, _), (0, _)]) rfl ?_
          refine v_goto C 38 dX11_end_97 (by decide) ?_
          rw [nI_1]
          refine v_sub [0, 2, 3, 4] rfl ?_
          rw [finS_no (bI_0 c4)]
          have hdl9 : (dn ++ [(Rr.1, patO Rr.1.1 Rr.1.2.1 Rr.1.2.2 Rr.2.1 (fld sep w1.1), Rr.2.2)]).length = i + 1 := by simp [hdl]
          exact ih t9.length (by rw [← hd]; simp) _ _ (i + 1) tk true w1 hW3 (dn ++ [(Rr.1, patO Rr.1.1 Rr.1.2.1 Rr.1.2.2 Rr.2.1 (fld sep w1.1), Rr.2.2)]) t9 (by first | exact hdl9 | exact hR3 | rfl) (by first | exact hdl9 | exact hR3 | rfl) (by first | exact hdl9 | exact hR3 | rfl)
        · skip
          refine v_iload_n C dX11_end_78 (j := 3) rfl rfl ?_
          refine v_iconst C dX11_end_79 (v := 1) (by decide) ?_
          refine v_iload_n C dX11_end_80 (j := 1) rfl rfl ?_
          refine v_ishl C dX11_end_81 ?_
          refine v_ior C dX11_end_82 ?_
          refine v_istore_n C dX11_end_83 rfl (by decide) (lv' := [(1, _), (4, _), (3, _), (2, _), (0, _)]) rfl ?_
          refine v_aload_n C dX11_end_84 (j := 4) rfl rfl ?_
          refine v_aload C dX11_end_85 (j := 1) rfl ?_
          refine v_getN C (T := TX7) (ci := 7) (j := 3) dX11_end_87 wiX11_end_X7 rfl (by decide) (v_nw C 24 rfl) (fun _ h => h) (FF_get (va_up_same _ _ _) rfl) ?_
          refine v_ci (v_runV C (k_performAll ht ht1 ht3 ht4 ht5 hW3 hL hsep (s4.kp kq (by decide) (by decide)) (s7.kp (ms := []) kq lpT.rf (by decide) (by decide) (by decide) (by decide) (by decide))) (cwV 1 C.1.2.2.2.2 gX11_end_X11_performAll rfl rfl rfl (by decide +kernel) ⟨Nat.le_of_ble_eq_true rfl, Nat.le_of_ble_eq_true rfl⟩) rfl rfl ((FF_get hW3.1 (k := 0) rfl).gC) dX11_end_90 (rest := []) (Nat.le_of_ble_eq_true rfl) rfl ⟨(by first | exact Nat.le_of_ble_eq_true rfl | (dsimp only; omega)), (by first | exact Nat.le_of_ble_eq_true rfl | (dsimp only; omega))⟩) (fun q x' hx' => ?_)
          obtain ⟨f4, T4, rfl, k4, l4, rfl, hW4⟩ := hx'
          refine v_istore_n C dX11_end_93 rfl (by decide) (lv' := [(2, _), (1, _), (4, _), (3, _), (0, _)]) rfl ?_
          refine v_iinc C dX11_end_94 (j := 3) (v := _ + 1) rfl rfl (by decide) (lv' := [(3, _), (2, _), (1, _), (4, _), (0, _)]) rfl ?_
          refine v_goto C 38 dX11_end_97 (by decide) ?_
          rw [nI_1]
          refine v_lv (lv' := [(3, .int (nI (i + 1))), (2, .int (bI (actsS sep (rnum + 1) Rr.2.2 w1).1)), (1, _), (4, _), (0, _)]) rfl ?_
          refine v_sub [0, 1, 2, 4] rfl ?_
          rw [finS_yes (bI_1 c4)]
          have hdl9 : (dn ++ [(Rr.1, patO Rr.1.1 Rr.1.2.1 Rr.1.2.2 Rr.2.1 (fld sep w1.1), Rr.2.2)]).length = i + 1 := by simp [hdl]
          have hR5 := hR3.kp k4 l4 (by decide) (by decide) (by decide) (by decide) (by decide) (by decide) (by decide) (by decide)
          exact ih t9.length (by rw [← hd]; simp) _ _ (i + 1) _ _ _ hW4 (dn ++ [(Rr.1, patO Rr.1.1 Rr.1.2.1 Rr.1.2.2 Rr.2.1 (fld sep w1.1), Rr.2.2)]) t9 (by first | exact hdl9 | exact hR5 | rfl) (by first | exact hdl9 | exact hR5 | rfl) (by first | exact hdl9 | exact hR5 | rfl)
end EN
