/-! ===== the reference: its picture: I its numbers, M its arrays, by the fields' places ===== -/
theorem wfX12_fails_81 : Cond.fieldLink RX12 81 "FieldScribeModel" (TX12 33).2.1 (TX12 33).2.2.1 ∈ wsX12_fails := by decide +kernel
theorem wiX12_fails_X12 : ∀ w ∈ u_ws RX12 TX12 34, w ∈ wsX12_fails := by decide +kernel
theorem wfX12_thrown_81 : Cond.fieldLink RX12 81 "FieldScribeModel" (TX12 33).2.1 (TX12 33).2.2.1 ∈ wsX12_thrown := by decide +kernel
theorem wiX12_thrown_X12 : ∀ w ∈ u_ws RX12 TX12 34, w ∈ wsX12_thrown := by decide +kernel
abbrev mS : Type := (Nat → Int32) × (Nat → Nat → Int32)
def isArr (j : Nat) : Bool := j == 1 || j == 4 || j == 5 || j == 6 || (11 ≤ j && j ≤ 20) || (22 ≤ j && j ≤ 24) || (26 ≤ j && j ≤ 28) || j == 30 || j == 32
def alen (j : Nat) : Nat := if j = 1 ∨ j = 6 ∨ j = 28 ∨ j = 30 then 60 else if j = 4 ∨ j = 5 ∨ j = 32 then 12 else if 11 ≤ j ∧ j ≤ 15 then 8 else if 16 ≤ j ∧ j ≤ 20 then 48 else if j = 22 then 1200 else if j = 23 ∨ j = 24 then 20 else if j = 26 then 2400 else 40
def acl (cI cZ : ClassId) (j : Nat) : ClassId := if j = 14 then cZ else cI
def mdL (ad : Nat → Nat) (I : Nat → Int32) : List Value := (List.range 34).map (fun j => if isArr j = true then .ref (ad j) else .int (I j))
def picM (D : va_G) (cI cZ : ClassId) (md : Nat) (ad : Nat → Nat) (A : Nat → Prop) (x : mS) (H : Heap) : Prop :=
  (A md ∧ va_at D vwCl (md, .inr (12, mdL ad x.1)) H) ∧ (∀ j, isArr j = true → A (ad j) ∧ va_at D vwCl (ad j, .inl (acl cI cZ j, alen j, .inl (x.2 j))) H) ∧ (∀ j, isArr j = true → ad j ≠ md) ∧ ∀ i j, isArr i = true → isArr j = true → ad i = ad j → i = j
section MO
variable {D : va_G} {cI cZ : ClassId} {md : Nat} {ad : Nat → Nat} {A : Nat → Prop} {I : Nat → Int32} {M : Nat → Nat → Int32}
theorem mdL_int {j : Nat} (hj : isArr j = false) (hl : j < 34) : (mdL ad I)[j]? = some (.int (I j)) := by simp [mdL, hl, hj]
theorem mdL_ref {j : Nat} (hj : isArr j = true) (hl : j < 34) : (mdL ad I)[j]? = some (.ref (ad j)) := by simp [mdL, hl, hj]
theorem mdL_set {j : Nat} (hj : isArr j = false) (v : Int32) : (mdL ad I).set j (.int v) = mdL ad (va_up I j v) := by
  apply List.ext_getElem?
  intro i
  by_cases hij : i = j
  · subst hij
    by_cases hl : i < 34
    · rw [mdL_int hj hl, va_up_same, List.getElem?_set_self (by simp [mdL]; omega)]
    · rw [List.getElem?_eq_none (by simp [mdL]; omega), List.getElem?_eq_none (by simp [mdL]; omega)]
  · rw [List.getElem?_set_ne (Ne.symm hij)]
    by_cases hl : i < 34
    · simp [mdL, hl, va_up_other _ _ _ hij]
    · rw [List.getElem?_eq_none (by simp [mdL]; omega), List.getElem?_eq_none (by simp [mdL]; omega)]
theorem M_int {j : Nat} (hj : isArr j = false) (hl : j < 34) : gO D (picM D cI cZ md ad A) (I, M) 12 md j (.int (I j)) := fun H hP => ⟨_, hP.1.2, mdL_int hj hl⟩
theorem M_ref {j : Nat} (hj : isArr j = true) (hl : j < 34) : gO D (picM D cI cZ md ad A) (I, M) 12 md j (.ref (ad j)) := fun H hP => ⟨_, hP.1.2, mdL_ref hj hl⟩
theorem M_arr {j : Nat} (hj : isArr j = true) : gA (picM D cI cZ md ad A) (I, M) (acl cI cZ j) (ad j) (alen j, .inl (M j)) := fun H hP => (hP.2.1 j hj).2
theorem M_put {j : Nat} (hj : isArr j = false) (hl : j < 34) (v : Int32) : pO D (picM D cI cZ md ad A) A (I, M) 12 md j (.int v) (va_up I j v, M) := fun H hP =>
  ⟨hP.1.1, _, hP.1.2, by simp [mdL]; omega, fun H' e1 e2 e3 => ⟨⟨hP.1.1, by rw [mdL_set hj] at e1; exact e1⟩, fun i hi => ⟨(hP.2.1 i hi).1, (hP.2.1 i hi).2.kept (e3 _ (hP.2.2.1 i hi))⟩, hP.2.2⟩⟩
theorem M_set {j : Nat} (hj : isArr j = true) (g : Nat → Int32) : pA (picM D cI cZ md ad A) A (I, M) (acl cI cZ j) (ad j) (alen j, .inl (M j)) (alen j, .inl g) (I, va_up M j g) := fun H hP =>
  ⟨(hP.2.1 j hj).1, (hP.2.1 j hj).2, fun H' e1 e2 e3 => ⟨⟨hP.1.1, hP.1.2.kept (e3 _ (Ne.symm (hP.2.2.1 j hj)))⟩, fun i hi => ⟨(hP.2.1 i hi).1, by
    by_cases hij : i = j
    · subst hij
      show va_at D vwCl (ad i, .inl (acl cI cZ i, alen i, .inl (va_up M i g i))) H'
      rw [va_up_same]
      exact e1
    · show va_at D vwCl (ad i, .inl (acl cI cZ i, alen i, .inl (va_up M j g i))) H'
      rw [va_up_other _ _ _ hij]
      exact (hP.2.1 i hi).2.kept (e3 _ (fun z => hij (hP.2.2.2 i j hi hj z)))⟩, hP.2.2⟩⟩
theorem M_gC : gC D (picM D cI cZ md ad A) (I, M) 12 md := (M_int (j := 0) rfl (by decide)).gC
end MO
section MH
variable {l : Launch} {D : va_G} {tys : List (ClassId × FieldType)} {z0 : Nat} {A : Nat → Prop} {cI cZ : ClassId} {md : Nat} {ad : Nat → Nat} {I : Nat → Int32} {M : Nat → Nat → Int32}
def isInB (v a b : Int32) : Bool := decide (a ≤ v) && decide (v ≤ b)
set_option maxRecDepth 100000 in
set_option maxHeartbeats 4000000 in
theorem m_isIn {σ : Type} {pic : σ → Heap → Prop} {x : σ} (v a b : Int32) : ct D tys z0 A pic l yX12_isIn wsX12_isIn rm0 [.int v, .int a, .int b] x (qI pic A (fun r x' => x' = x ∧ r = bI (isInB v a b))) := by
  refine ct_of RX12 (by decide +kernel) rfl rfl (Nat.le_of_ble_eq_true rfl) ?_
  intro p e s m below meth c C hr hm
  refine v_lv (lv' := [(0, _), (1, _), (2, _)]) rfl ?_
  refine v_iload_n C dX12_isIn_0 (j := 0) rfl rfl ?_
  refine v_iload_n C dX12_isIn_1 (j := 1) rfl rfl ?_
  refine v_icmp_lt C 14 dX12_isIn_2 (by decide) (fun c1 => ?_) (fun c1 => ?_)
  · skip
    refine v_iconst C dX12_isIn_14 (v := 0) (by decide) ?_
    exact v_ireturn C dX12_isIn_15 hr (rfl) (Nat.le_of_ble_eq_true rfl) (Nat.le_of_ble_eq_true rfl) (⟨rfl, bI_f (by unfold isInB; rw [decide_eq_false (Int32.not_le.mpr c1)]; rfl)⟩)
  · skip
    refine v_iload_n C dX12_isIn_5 (j := 0) rfl rfl ?_
    refine v_iload_n C dX12_isIn_6 (j := 2) rfl rfl ?_
    refine v_icmp_gt C 14 dX12_isIn_7 (by decide) (fun c2 => ?_) (fun c2 => ?_)
    · skip
      refine v_iconst C dX12_isIn_14 (v := 0) (by decide) ?_
      exact v_ireturn C dX12_isIn_15 hr (rfl) (Nat.le_of_ble_eq_true rfl) (Nat.le_of_ble_eq_true rfl) (⟨rfl, bI_f (by unfold isInB; rw [decide_eq_false (p := v ≤ b) (Int32.not_le.mpr c2), Bool.and_false])⟩)
    · skip
      refine v_iconst C dX12_isIn_10 (v := 1) (by decide) ?_
      refine v_goto C 15 dX12_isIn_11 (by decide) ?_
      exact v_ireturn C dX12_isIn_15 hr (rfl) (Nat.le_of_ble_eq_true rfl) (Nat.le_of_ble_eq_true rfl) (⟨rfl, bI_t (by unfold isInB; rw [decide_eq_true (Int32.not_lt.mp c1), decide_eq_true (Int32.not_lt.mp c2)]; rfl)⟩)
set_option maxRecDepth 100000 in
set_option maxHeartbeats 4000000 in
theorem m_isField {σ : Type} {pic : σ → Heap → Prop} {x : σ} (v : Int32) : ct D tys z0 A pic l yX12_isField wsX12_isField (rmL 1 22) [.int v] x (qI pic A (fun r x' => x' = x ∧ r = bI (isFd v))) := by
  refine ct_of RX12 (by decide +kernel) rfl rfl (Nat.le_of_ble_eq_true rfl) ?_
  intro p e s m below meth c C hr hm
  refine v_lv (lv' := [(0, _)]) rfl ?_
  refine v_iload_n C dX12_isField_0 (j := 0) rfl rfl ?_
  refine v_iconst C dX12_isField_1 (v := 0) (by decide) ?_
  refine v_bipush C dX12_isField_2 (v := 12) (by decide) ?_
  refine v_ci (v_runS C (m_isIn v 0 12) (va_cwS 3 C.1.2.2.2.2 gX12_isField_X12_isIn rfl rfl rfl (by decide +kernel) ⟨Nat.le_of_ble_eq_true rfl, Nat.le_of_ble_eq_true rfl⟩) rfl dX12_isField_4 (rest := []) (Nat.le_of_ble_eq_true rfl) rfl ⟨(by first | exact Nat.le_of_ble_eq_true rfl | (dsimp only; omega)), (by first | exact Nat.le_of_ble_eq_true rfl | (dsimp only; omega))⟩) (fun q x' hx' => ?_)
  obtain ⟨rfl, rfl⟩ := hx'
  exact v_ireturn C dX12_isField_7 hr (bI_nar _) (Nat.le_of_ble_eq_true rfl) (Nat.le_of_ble_eq_true rfl) (⟨rfl, rfl⟩)
set_option maxRecDepth 100000 in
set_option maxHeartbeats 4000000 in
theorem m_isDigit {σ : Type} {pic : σ → Heap → Prop} {x : σ} (v : Int32) : ct D tys z0 A pic l yX12_isDigit wsX12_isDigit (rmL 1 22) [.int v] x (qI pic A (fun r x' => x' = x ∧ r = bI (isDig v))) := by
  refine ct_of RX12 (by decide +kernel) rfl rfl (Nat.le_of_ble_eq_true rfl) ?_
  intro p e s m below meth c C hr hm
  refine v_lv (lv' := [(0, _)]) rfl ?_
  refine v_iload_n C dX12_isDigit_0 (j := 0) rfl rfl ?_
  refine v_bipush C dX12_isDigit_1 (v := 48) (by decide) ?_
  refine v_bipush C dX12_isDigit_3 (v := 57) (by decide) ?_
  refine v_ci (v_runS C (m_isIn v 48 57) (va_cwS 3 C.1.2.2.2.2 gX12_isDigit_X12_isIn rfl rfl rfl (by decide +kernel) ⟨Nat.le_of_ble_eq_true rfl, Nat.le_of_ble_eq_true rfl⟩) rfl dX12_isDigit_5 (rest := []) (Nat.le_of_ble_eq_true rfl) rfl ⟨(by first | exact Nat.le_of_ble_eq_true rfl | (dsimp only; omega)), (by first | exact Nat.le_of_ble_eq_true rfl | (dsimp only; omega))⟩) (fun q x' hx' => ?_)
  obtain ⟨rfl, rfl⟩ := hx'
  exact v_ireturn C dX12_isDigit_8 hr (bI_nar _) (Nat.le_of_ble_eq_true rfl) (Nat.le_of_ble_eq_true rfl) (⟨rfl, rfl⟩)
set_option maxRecDepth 100000 in
set_option maxHeartbeats 4000000 in
theorem m_isFieldOf {σ : Type} {pic : σ → Heap → Prop} {x : σ} (v : Int32) : ct D tys z0 A pic l yX12_isFieldOf wsX12_isFieldOf (rmL 1 22) [.int v] x (qI pic A (fun r x' => x' = x ∧ r = bI (isInB v (-13) (-1)))) := by
  refine ct_of RX12 (by decide +kernel) rfl rfl (Nat.le_of_ble_eq_true rfl) ?_
  intro p e s m below meth c C hr hm
  refine v_lv (lv' := [(0, _)]) rfl ?_
  refine v_iload_n C dX12_isFieldOf_0 (j := 0) rfl rfl ?_
  refine v_bipush C dX12_isFieldOf_1 (v := (-13)) (by decide) ?_
  refine v_iconst C dX12_isFieldOf_3 (v := (-1)) (by decide) ?_
  refine v_ci (v_runS C (m_isIn v (-13) (-1)) (va_cwS 3 C.1.2.2.2.2 gX12_isFieldOf_X12_isIn rfl rfl rfl (by decide +kernel) ⟨Nat.le_of_ble_eq_true rfl, Nat.le_of_ble_eq_true rfl⟩) rfl dX12_isFieldOf_4 (rest := []) (Nat.le_of_ble_eq_true rfl) rfl ⟨(by first | exact Nat.le_of_ble_eq_true rfl | (dsimp only; omega)), (by first | exact Nat.le_of_ble_eq_true rfl | (dsimp only; omega))⟩) (fun q x' hx' => ?_)
  obtain ⟨rfl, rfl⟩ := hx'
  exact v_ireturn C dX12_isFieldOf_7 hr (bI_nar _) (Nat.le_of_ble_eq_true rfl) (Nat.le_of_ble_eq_true rfl) (⟨rfl, rfl⟩)
set_option maxRecDepth 100000 in
set_option maxHeartbeats 4000000 in
theorem m_isOperand {σ : Type} {pic : σ → Heap → Prop} {x : σ} (v : Int32) : ct D tys z0 A pic l yX12_isOperand wsX12_isOperand (rmL 1 22) [.int v] x (qI pic A (fun r x' => x' = x ∧ r = bI (isOpd v))) := by
  refine ct_of RX12 (by decide +kernel) rfl rfl (Nat.le_of_ble_eq_true rfl) ?_
  have e9 : isOpd v = (isInB v (-13) 9999 || decide (v = -20) || decide (v = -21)) := by
    unfold isOpd isNb isInB
    rw [Bool.eq_iff_iff]
    simp only [Bool.or_eq_true, Bool.and_eq_true, decide_eq_true_eq, Int32.le_iff_toInt_le]
    rw [show (0 : Int32).toInt = 0 from rfl, show (9999 : Int32).toInt = 9999 from rfl, show (-13 : Int32).toInt = -13 from rfl, show (-1 : Int32).toInt = -1 from rfl]
    constructor
    · rintro (((h | h) | h) | h)
      · exact Or.inl (Or.inl ⟨by omega, h.2⟩)
      · exact Or.inl (Or.inl ⟨h.1, by omega⟩)
      · exact Or.inl (Or.inr h)
      · exact Or.inr h
    · rintro ((h | h) | h)
      · by_cases h9 : 0 ≤ v.toInt
        · exact Or.inl (Or.inl (Or.inl ⟨h9, h.2⟩))
        · exact Or.inl (Or.inl (Or.inr ⟨h.1, by omega⟩))
      · exact Or.inl (Or.inr h)
      · exact Or.inr h
  intro p e s m below meth c C hr hm
  refine v_lv (lv' := [(0, _)]) rfl ?_
  refine v_iload_n C dX12_isOperand_0 (j := 0) rfl rfl ?_
  refine v_bipush C dX12_isOperand_1 (v := (-13)) (by decide) ?_
  refine v_sipush C dX12_isOperand_3 (v := 9999) (by decide) ?_
  refine v_ci (v_runS C (m_isIn v (-13) 9999) (va_cwS 3 C.1.2.2.2.2 gX12_isOperand_X12_isIn rfl rfl rfl (by decide +kernel) ⟨Nat.le_of_ble_eq_true rfl, Nat.le_of_ble_eq_true rfl⟩) rfl dX12_isOperand_6 (rest := []) (Nat.le_of_ble_eq_true rfl) rfl ⟨(by first | exact Nat.le_of_ble_eq_true rfl | (dsimp only; omega)), (by first | exact Nat.le_of_ble_eq_true rfl | (dsimp only; omega))⟩) (fun q x' hx' => ?_)
  obtain ⟨rfl, rfl⟩ := hx'
  refine v_if_ne C 24 dX12_isOperand_9 (by decide) (fun c1 => ?_) (fun c1 => ?_)
  · skip
    refine v_iconst C dX12_isOperand_24 (v := 1) (by decide) ?_
    refine v_goto C 29 dX12_isOperand_25 (by decide) ?_
    exact v_ireturn C dX12_isOperand_29 hr (rfl) (Nat.le_of_ble_eq_true rfl) (Nat.le_of_ble_eq_true rfl) (⟨rfl, bI_t (by rw [e9, bI_1 c1]; rfl)⟩)
  · skip
    refine v_iload_n C dX12_isOperand_12 (j := 0) rfl rfl ?_
    refine v_bipush C dX12_isOperand_13 (v := (-20)) (by decide) ?_
    refine v_icmp_eq C 24 dX12_isOperand_15 (by decide) (fun c2 => ?_) (fun c2 => ?_)
    · skip
      refine v_iconst C dX12_isOperand_24 (v := 1) (by decide) ?_
      refine v_goto C 29 dX12_isOperand_25 (by decide) ?_
      exact v_ireturn C dX12_isOperand_29 hr (rfl) (Nat.le_of_ble_eq_true rfl) (Nat.le_of_ble_eq_true rfl) (⟨rfl, bI_t (by rw [e9, decide_eq_true (p := v = -20) c2]; simp)⟩)
    · skip
      refine v_iload_n C dX12_isOperand_18 (j := 0) rfl rfl ?_
      refine v_bipush C dX12_isOperand_19 (v := (-21)) (by decide) ?_
      refine v_icmp_ne C 28 dX12_isOperand_21 (by decide) (fun c3 => ?_) (fun c3 => ?_)
      · skip
        refine v_iconst C dX12_isOperand_28 (v := 0) (by decide) ?_
        exact v_ireturn C dX12_isOperand_29 hr (rfl) (Nat.le_of_ble_eq_true rfl) (Nat.le_of_ble_eq_true rfl) (⟨rfl, bI_f (by rw [e9, bI_0 c1, decide_eq_false (p := v = -20) c2, decide_eq_false (p := v = -21) c3]; rfl)⟩)
      · skip
        refine v_iconst C dX12_isOperand_24 (v := 1) (by decide) ?_
        refine v_goto C 29 dX12_isOperand_25 (by decide) ?_
        exact v_ireturn C dX12_isOperand_29 hr (rfl) (Nat.le_of_ble_eq_true rfl) (Nat.le_of_ble_eq_true rfl) (⟨rfl, bI_t (by rw [e9, decide_eq_true (p := v = -21) c3]; simp)⟩)
set_option maxRecDepth 100000 in
set_option maxHeartbeats 4000000 in
theorem m_letter {σ : Type} {pic : σ → Heap → Prop} {x : σ} {v : Int32} (hv : isCd v = true) : ct D tys z0 A pic l yX12_letter wsX12_letter rm0 [.int v] x (qI pic A (fun r x' => x' = x ∧ r = sgn v)) := by
  refine ct_of RX12 (by decide +kernel) rfl rfl (Nat.le_of_ble_eq_true rfl) ?_
  obtain ⟨k, hk, rfl⟩ := nI_of2 (M := 37) (n := 37) rfl (Int32.not_lt.mpr (of_decide_eq_true ((Bool.and_eq_true _ _).mp hv).1)) (of_decide_eq_true ((Bool.and_eq_true _ _).mp hv).2)
  have hA : ∀ k : Fin 38, (nI k.val < 10 → 48 + nI k.val = sgn (nI k.val)) ∧ (¬ nI k.val < 10 → nI k.val < 36 → 97 + nI k.val - 10 = sgn (nI k.val)) ∧ (nI k.val = 36 → 32 = sgn (nI k.val)) ∧ (¬ nI k.val < 36 → ¬ nI k.val = 36 → 44 = sgn (nI k.val)) := by decide +kernel
  have h9 := hA ⟨k, by omega⟩
  dsimp only at h9
  intro p e s m below meth c C hr hm
  refine v_lv (lv' := [(0, _)]) rfl ?_
  refine v_iload_n C dX12_letter_0 (j := 0) rfl rfl ?_
  refine v_bipush C dX12_letter_1 (v := 10) (by decide) ?_
  refine v_icmp_ge C 13 dX12_letter_3 (by decide) (fun c1 => ?_) (fun c1 => ?_)
  · skip
    refine v_iload_n C dX12_letter_13 (j := 0) rfl rfl ?_
    refine v_bipush C dX12_letter_14 (v := 36) (by decide) ?_
    refine v_icmp_ge C 29 dX12_letter_16 (by decide) (fun c2 => ?_) (fun c2 => ?_)
    · skip
      refine v_iload_n C dX12_letter_29 (j := 0) rfl rfl ?_
      refine v_bipush C dX12_letter_30 (v := 36) (by decide) ?_
      refine v_icmp_ne C 40 dX12_letter_32 (by decide) (fun c3 => ?_) (fun c3 => ?_)
      · skip
        refine v_bipush C dX12_letter_40 (v := 44) (by decide) ?_
        exact v_ireturn C dX12_letter_42 hr (rfl) (Nat.le_of_ble_eq_true rfl) (Nat.le_of_ble_eq_true rfl) (⟨rfl, h9.2.2.2 (Int32.not_lt.mpr c2) c3⟩)
      · skip
        refine v_bipush C dX12_letter_35 (v := 32) (by decide) ?_
        refine v_goto C 42 dX12_letter_37 (by decide) ?_
        exact v_ireturn C dX12_letter_42 hr (rfl) (Nat.le_of_ble_eq_true rfl) (Nat.le_of_ble_eq_true rfl) (⟨rfl, h9.2.2.1 c3⟩)
    · skip
      refine v_bipush C dX12_letter_19 (v := 97) (by decide) ?_
      refine v_iload_n C dX12_letter_21 (j := 0) rfl rfl ?_
      refine v_iadd C dX12_letter_22 ?_
      refine v_bipush C dX12_letter_23 (v := 10) (by decide) ?_
      refine v_isub C dX12_letter_25 ?_
      refine v_goto C 42 dX12_letter_26 (by decide) ?_
      exact v_ireturn C dX12_letter_42 hr (rfl) (Nat.le_of_ble_eq_true rfl) (Nat.le_of_ble_eq_true rfl) (⟨rfl, h9.2.1 (Int32.not_lt.mpr c1) (Int32.not_le.mp c2)⟩)
  · skip
    refine v_bipush C dX12_letter_6 (v := 48) (by decide) ?_
    refine v_iload_n C dX12_letter_8 (j := 0) rfl rfl ?_
    refine v_iadd C dX12_letter_9 ?_
    refine v_goto C 42 dX12_letter_10 (by decide) ?_
    exact v_ireturn C dX12_letter_42 hr (rfl) (Nat.le_of_ble_eq_true rfl) (Nat.le_of_ble_eq_true rfl) (⟨rfl, h9.1 (Int32.not_le.mp c1)⟩)
set_option maxRecDepth 100000 in
set_option maxHeartbeats 4000000 in
theorem m_rank {σ : Type} {pic : σ → Heap → Prop} {x : σ} (v : Int32) : ct D tys z0 A pic l yX12_rank wsX12_rank rm0 [.int v] x (qI pic A (fun r x' => x' = x ∧ r = rank v)) := by
  refine ct_of RX12 (by decide +kernel) rfl rfl (Nat.le_of_ble_eq_true rfl) ?_
  intro p e s m below meth c C hr hm
  refine v_lv (lv' := [(0, _)]) rfl ?_
  refine v_iload_n C dX12_rank_0 (j := 0) rfl rfl ?_
  refine v_bipush C dX12_rank_1 (v := 32) (by decide) ?_
  refine v_icmp_ne C 10 dX12_rank_3 (by decide) (fun c1 => ?_) (fun c1 => ?_)
  · skip
    refine v_iload_n C dX12_rank_10 (j := 0) rfl rfl ?_
    refine v_bipush C dX12_rank_11 (v := 45) (by decide) ?_
    refine v_icmp_ne C 20 dX12_rank_13 (by decide) (fun c2 => ?_) (fun c2 => ?_)
    · skip
      refine v_iload_n C dX12_rank_20 (j := 0) rfl rfl ?_
      refine v_bipush C dX12_rank_21 (v := 44) (by decide) ?_
      refine v_icmp_ne C 30 dX12_rank_23 (by decide) (fun c3 => ?_) (fun c3 => ?_)
      · skip
        refine v_iload_n C dX12_rank_30 (j := 0) rfl rfl ?_
        exact v_ireturn C dX12_rank_31 hr (rfl) (Nat.le_of_ble_eq_true rfl) (Nat.le_of_ble_eq_true rfl) (⟨rfl, by unfold rank; rw [if_neg c1, if_neg c2, if_neg c3]⟩)
      · skip
        refine v_iconst C dX12_rank_26 (v := 2) (by decide) ?_
        refine v_goto C 31 dX12_rank_27 (by decide) ?_
        exact v_ireturn C dX12_rank_31 hr (rfl) (Nat.le_of_ble_eq_true rfl) (Nat.le_of_ble_eq_true rfl) (⟨rfl, by unfold rank; rw [if_neg c1, if_neg c2, if_pos c3]⟩)
    · skip
      refine v_iconst C dX12_rank_16 (v := 1) (by decide) ?_
      refine v_goto C 31 dX12_rank_17 (by decide) ?_
      exact v_ireturn C dX12_rank_31 hr (rfl) (Nat.le_of_ble_eq_true rfl) (Nat.le_of_ble_eq_true rfl) (⟨rfl, by unfold rank; rw [if_neg c1, if_pos c2]⟩)
  · skip
    refine v_iconst C dX12_rank_6 (v := 0) (by decide) ?_
    refine v_goto C 31 dX12_rank_7 (by decide) ?_
    exact v_ireturn C dX12_rank_31 hr (rfl) (Nat.le_of_ble_eq_true rfl) (Nat.le_of_ble_eq_true rfl) (⟨rfl, by unfold rank; rw [if_pos c1]⟩)
set_option maxRecDepth 100000 in
set_option maxHeartbeats 4000000 in
theorem m_fails (v : Int32) : ct D tys z0 A (picM D cI cZ md ad A) l yX12_fails wsX12_fails rm0 [.ref md, .int v] (I, M) (qI (picM D cI cZ md ad A) A (fun r x' => x' = (va_up I 33 v, M) ∧ r = bI (decide (0 < v)))) := by
  refine ct_of RX12 (by decide +kernel) rfl rfl (Nat.le_of_ble_eq_true rfl) ?_
  intro p e s m below meth c C hr hm
  refine v_lv (lv' := [(0, _), (1, _)]) rfl ?_
  refine v_aload_n C dX12_fails_0 (j := 0) rfl rfl ?_
  refine v_iload_n C dX12_fails_1 (j := 1) rfl rfl ?_
  refine v_put C (T := TX12) (ci := 12) (j := 33) (ty := .int) dX12_fails_2 wiX12_fails_X12 tyX12 tyX12_ok nmX12 rfl (by decide) wfX12_fails_81 (fun _ h => h) rfl rfl (rfl) (rfl) (M_put rfl (by decide) v) ?_
  refine v_iload_n C dX12_fails_5 (j := 1) rfl rfl ?_
  refine v_if_le C 13 dX12_fails_6 (by decide) (fun c1 => ?_) (fun c1 => ?_)
  · skip
    refine v_iconst C dX12_fails_13 (v := 0) (by decide) ?_
    exact v_ireturn C dX12_fails_14 hr (rfl) (Nat.le_of_ble_eq_true rfl) (Nat.le_of_ble_eq_true rfl) (⟨rfl, bI_f (decide_eq_false (Int32.not_lt.mpr c1))⟩)
  · skip
    refine v_iconst C dX12_fails_9 (v := 1) (by decide) ?_
    refine v_goto C 14 dX12_fails_10 (by decide) ?_
    exact v_ireturn C dX12_fails_14 hr (rfl) (Nat.le_of_ble_eq_true rfl) (Nat.le_of_ble_eq_true rfl) (⟨rfl, bI_t (decide_eq_true (Int32.not_le.mp c1))⟩)
set_option maxRecDepth 100000 in
set_option maxHeartbeats 4000000 in
theorem m_thrown : ct D tys z0 A (picM D cI cZ md ad A) l yX12_thrown wsX12_thrown rm0 [.ref md] (I, M) (qI (picM D cI cZ md ad A) A (fun r x' => x' = (I, M) ∧ r = I 33)) := by
  refine ct_of RX12 (by decide +kernel) rfl rfl (Nat.le_of_ble_eq_true rfl) ?_
  intro p e s m below meth c C hr hm
  refine v_lv (lv' := [(0, _)]) rfl ?_
  refine v_aload_n C dX12_thrown_0 (j := 0) rfl rfl ?_
  refine v_get C (T := TX12) (ci := 12) (j := 33) dX12_thrown_1 wiX12_thrown_X12 rfl (by decide) wfX12_thrown_81 (fun _ h => h) (M_int rfl (by decide)) ?_
  exact v_ireturn C dX12_thrown_4 hr (rfl) (Nat.le_of_ble_eq_true rfl) (Nat.le_of_ble_eq_true rfl) (⟨rfl, rfl⟩)
end MH
