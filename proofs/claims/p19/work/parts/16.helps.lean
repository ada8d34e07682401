/-! ===== FieldScribe's helpers ===== -/
theorem wwX11_requireField_cl83 : Cond.classLink RX11 83 "java/lang/IndexOutOfBoundsException" ∈ wsX11_requireField := by decide +kernel
theorem wwX11_requireField_in_IOO : Cond.initialized "java/lang/IndexOutOfBoundsException" ∈ wsX11_requireField := by decide +kernel
theorem wgX11_requireField_IOO : ∀ w ∈ wgIOO, w ∈ wsX11_requireField := by
  intro w h
  first | exact List.mem_cons_of_mem _ (List.mem_append_right _ h) | exact List.mem_cons_of_mem _ (List.mem_append_left _ (List.mem_append_right _ h)) | exact List.mem_cons_of_mem _ (List.mem_append_left _ (List.mem_append_left _ (List.mem_append_right _ h)))
theorem wwX11_requireCode_cl58 : Cond.classLink RX11 58 "java/lang/IllegalArgumentException" ∈ wsX11_requireCode := by decide +kernel
theorem wwX11_requireCode_in_IAE : Cond.initialized "java/lang/IllegalArgumentException" ∈ wsX11_requireCode := by decide +kernel
theorem wgX11_requireCode_IAE : ∀ w ∈ wgIAE, w ∈ wsX11_requireCode := by
  intro w h
  first | exact List.mem_cons_of_mem _ (List.mem_append_right _ h) | exact List.mem_cons_of_mem _ (List.mem_append_left _ (List.mem_append_right _ h)) | exact List.mem_cons_of_mem _ (List.mem_append_left _ (List.mem_append_left _ (List.mem_append_right _ h)))
theorem wwX11_requirePlace_cl83 : Cond.classLink RX11 83 "java/lang/IndexOutOfBoundsException" ∈ wsX11_requirePlace := by decide +kernel
theorem wwX11_requirePlace_in_IOO : Cond.initialized "java/lang/IndexOutOfBoundsException" ∈ wsX11_requirePlace := by decide +kernel
theorem wgX11_requirePlace_IOO : ∀ w ∈ wgIOO, w ∈ wsX11_requirePlace := by
  intro w h
  first | exact List.mem_cons_of_mem _ (List.mem_append_right _ h) | exact List.mem_cons_of_mem _ (List.mem_append_left _ (List.mem_append_right _ h)) | exact List.mem_cons_of_mem _ (List.mem_append_left _ (List.mem_append_left _ (List.mem_append_right _ h)))
theorem wiX11_signAt_X10 : ∀ w ∈ u_ws RX10 TX10 2, w ∈ wsX11_signAt := by decide +kernel
section HP
variable {l : Launch} {D : va_G} {tys : List (ClassId × FieldType)} {z0 : Nat} {A : Nat → Prop} {σ : Type} {pic : σ → Heap → Prop} {x : σ}
def isFd (z : Int32) : Bool := decide (0 ≤ z) && decide (z ≤ 12)
def isNb (z : Int32) : Bool := decide (0 ≤ z) && decide (z ≤ 9999)
def isOpd (z : Int32) : Bool := isNb z || (decide (-13 ≤ z) && decide (z ≤ -1)) || decide (z = -20) || decide (z = -21)
def isPat (k a b : Int32) : Bool := if k = 0 then true else if k = 1 then isFd a && isNb b else if k = 2 then isFd a && isFd b else if k = 3 then isNb a && isNb b else false
def isCd (z : Int32) : Bool := decide (0 ≤ z) && decide (z ≤ 37)
def sgn (z : Int32) : Int32 := if z = 36 then 32 else if z = 37 then 44 else if z < 10 then 48 + z else 97 + (z - 10)
set_option maxRecDepth 100000 in
set_option maxHeartbeats 4000000 in
theorem k_isField (z : Int32) : ct D tys z0 A pic l yX11_isField wsX11_isField rm0 [.int z] x (qI pic A (fun r x' => x' = x ∧ r = bI (isFd z))) := by
  refine ct_of RX11 (by decide +kernel) rfl rfl (Nat.le_of_ble_eq_true rfl) ?_
  intro p e s m below meth c C hr hm
  refine v_lv (lv' := [(0, _)]) rfl ?_
  refine v_iload_n C dX11_isField_0 (j := 0) rfl rfl ?_
  refine v_if_lt C 14 dX11_isField_1 (by decide) (fun c1 => ?_) (fun c1 => ?_)
  · skip
    refine v_iconst C dX11_isField_14 (v := 0) (by decide) ?_
    exact v_ireturn C dX11_isField_15 hr (rfl) (Nat.le_of_ble_eq_true rfl) (Nat.le_of_ble_eq_true rfl) (⟨rfl, bI_f (by unfold isFd; rw [decide_eq_false (Int32.not_le.mpr c1)]; rfl)⟩)
  · skip
    refine v_iload_n C dX11_isField_4 (j := 0) rfl rfl ?_
    refine v_bipush C dX11_isField_5 (v := 12) (by decide) ?_
    refine v_icmp_gt C 14 dX11_isField_7 (by decide) (fun c2 => ?_) (fun c2 => ?_)
    · skip
      refine v_iconst C dX11_isField_14 (v := 0) (by decide) ?_
      exact v_ireturn C dX11_isField_15 hr (rfl) (Nat.le_of_ble_eq_true rfl) (Nat.le_of_ble_eq_true rfl) (⟨rfl, bI_f (by unfold isFd; rw [decide_eq_false (p := z ≤ 12) (Int32.not_le.mpr c2), Bool.and_false])⟩)
    · skip
      refine v_iconst C dX11_isField_10 (v := 1) (by decide) ?_
      refine v_goto C 15 dX11_isField_11 (by decide) ?_
      exact v_ireturn C dX11_isField_15 hr (rfl) (Nat.le_of_ble_eq_true rfl) (Nat.le_of_ble_eq_true rfl) (⟨rfl, bI_t (by unfold isFd; rw [decide_eq_true (Int32.not_lt.mp c1), decide_eq_true (Int32.not_lt.mp c2)]; rfl)⟩)
set_option maxRecDepth 100000 in
set_option maxHeartbeats 4000000 in
theorem k_requireField (hl : l.stackTraces = false) (hg : gS pic) (z : Int32) : cX D tys z0 A pic l yX11_requireField wsX11_requireField ({ frames := 6, cells := 1, slots := 6, locals := 92 } : Room) [.int z] x (qV pic A (fun x' => x' = x ∧ isFd z = true)) (fun E x' => E = xIOO ∧ x' = x ∧ isFd z = false) := by
  refine cX_of RX11 (by decide +kernel) rfl rfl (Nat.le_of_ble_eq_true rfl) ?_
  intro p e s m below meth c C hr hex
  refine v_lv (lv' := [(0, _)]) rfl ?_
  refine v_iload_n C dX11_requireField_0 (j := 0) rfl rfl ?_
  refine v_ci (v_runS C (k_isField z) (va_cwS 1 C.1.2.2.2.2 gX11_requireField_X11_isField rfl rfl rfl (by decide +kernel) ⟨Nat.le_of_ble_eq_true rfl, Nat.le_of_ble_eq_true rfl⟩) rfl dX11_requireField_1 (rest := []) (Nat.le_of_ble_eq_true rfl) rfl ⟨Nat.le_of_ble_eq_true rfl, Nat.le_of_ble_eq_true rfl⟩) (fun q x' hx' => ?_)
  obtain ⟨rfl, rfl⟩ := hx'
  refine v_if_ne C 17 dX11_requireField_4 (by decide) (fun c1 => ?_) (fun c1 => ?_)
  · skip
    refine v_xret ?_
    exact v_return C dX11_requireField_17 hr (Nat.le_of_ble_eq_true rfl) (Nat.le_of_ble_eq_true rfl) (⟨rfl, bI_1 c1⟩)
  · skip
    exact v_throwS C hl (text := "no such field") 19 rfl rfl wwX11_requireField_cl83 wwX11_requireField_in_IOO (by decide) wgX11_requireField_IOO wbIOO woIOO dX11_requireField_7 dX11_requireField_10 dX11_requireField_11 dX11_requireField_13 dX11_requireField_16 hex (Nat.le_of_ble_eq_true rfl) (Nat.le_of_ble_eq_true rfl) (Nat.le_of_ble_eq_true rfl) (Nat.le_of_ble_eq_true rfl) (Nat.le_of_ble_eq_true rfl) (Nat.le_of_ble_eq_true rfl) (hg) (⟨rfl, rfl, bI_0 c1⟩)
set_option maxRecDepth 100000 in
set_option maxHeartbeats 4000000 in
theorem k_isNumber (z : Int32) : ct D tys z0 A pic l yX11_isNumber wsX11_isNumber rm0 [.int z] x (qI pic A (fun r x' => x' = x ∧ r = bI (isNb z))) := by
  refine ct_of RX11 (by decide +kernel) rfl rfl (Nat.le_of_ble_eq_true rfl) ?_
  intro p e s m below meth c C hr hm
  refine v_lv (lv' := [(0, _)]) rfl ?_
  refine v_iload_n C dX11_isNumber_0 (j := 0) rfl rfl ?_
  refine v_if_lt C 15 dX11_isNumber_1 (by decide) (fun c1 => ?_) (fun c1 => ?_)
  · skip
    refine v_iconst C dX11_isNumber_15 (v := 0) (by decide) ?_
    exact v_ireturn C dX11_isNumber_16 hr (rfl) (Nat.le_of_ble_eq_true rfl) (Nat.le_of_ble_eq_true rfl) (⟨rfl, bI_f (by unfold isNb; rw [decide_eq_false (Int32.not_le.mpr c1)]; rfl)⟩)
  · skip
    refine v_iload_n C dX11_isNumber_4 (j := 0) rfl rfl ?_
    refine v_sipush C dX11_isNumber_5 (v := 9999) (by decide) ?_
    refine v_icmp_gt C 15 dX11_isNumber_8 (by decide) (fun c2 => ?_) (fun c2 => ?_)
    · skip
      refine v_iconst C dX11_isNumber_15 (v := 0) (by decide) ?_
      exact v_ireturn C dX11_isNumber_16 hr (rfl) (Nat.le_of_ble_eq_true rfl) (Nat.le_of_ble_eq_true rfl) (⟨rfl, bI_f (by unfold isNb; rw [decide_eq_false (p := z ≤ 9999) (Int32.not_le.mpr c2), Bool.and_false])⟩)
    · skip
      refine v_iconst C dX11_isNumber_11 (v := 1) (by decide) ?_
      refine v_goto C 16 dX11_isNumber_12 (by decide) ?_
      exact v_ireturn C dX11_isNumber_16 hr (rfl) (Nat.le_of_ble_eq_true rfl) (Nat.le_of_ble_eq_true rfl) (⟨rfl, bI_t (by unfold isNb; rw [decide_eq_true (Int32.not_lt.mp c1), decide_eq_true (Int32.not_lt.mp c2)]; rfl)⟩)
set_option maxRecDepth 100000 in
set_option maxHeartbeats 4000000 in
theorem k_isOperand (z : Int32) : ct D tys z0 A pic l yX11_isOperand wsX11_isOperand (rmL 1 20) [.int z] x (qI pic A (fun r x' => x' = x ∧ r = bI (isOpd z))) := by
  refine ct_of RX11 (by decide +kernel) rfl rfl (Nat.le_of_ble_eq_true rfl) ?_
  intro p e s m below meth c C hr hm
  refine v_lv (lv' := [(0, _)]) rfl ?_
  refine v_iload_n C dX11_isOperand_0 (j := 0) rfl rfl ?_
  refine v_ci (v_runS C (k_isNumber z) (va_cwS 1 C.1.2.2.2.2 gX11_isOperand_X11_isNumber rfl rfl rfl (by decide +kernel) ⟨Nat.le_of_ble_eq_true rfl, Nat.le_of_ble_eq_true rfl⟩) rfl dX11_isOperand_1 (rest := []) (Nat.le_of_ble_eq_true rfl) rfl ⟨Nat.le_of_ble_eq_true rfl, Nat.le_of_ble_eq_true rfl⟩) (fun q x' hx' => ?_)
  obtain ⟨rfl, rfl⟩ := hx'
  refine v_if_ne C 30 dX11_isOperand_4 (by decide) (fun c1 => ?_) (fun c1 => ?_)
  · skip
    refine v_iconst C dX11_isOperand_30 (v := 1) (by decide) ?_
    refine v_goto C 35 dX11_isOperand_31 (by decide) ?_
    exact v_ireturn C dX11_isOperand_35 hr (rfl) (Nat.le_of_ble_eq_true rfl) (Nat.le_of_ble_eq_true rfl) (⟨rfl, bI_t (by unfold isOpd; rw [bI_1 c1]; rfl)⟩)
  · skip
    have e1 := bI_0 c1
    refine v_cut0 (pcj := 18) (lvj := [(0, .int z)]) (stj := []) ((decide (-13 ≤ z) && decide (z ≤ -1)) = false) (fun hw => ?_) (fun K => ?_)
    · skip
      refine v_iload_n C dX11_isOperand_18 (j := 0) rfl rfl ?_
      refine v_bipush C dX11_isOperand_19 (v := (-20)) (by decide) ?_
      refine v_icmp_eq C 30 dX11_isOperand_21 (by decide) (fun c2 => ?_) (fun c2 => ?_)
      · skip
        refine v_iconst C dX11_isOperand_30 (v := 1) (by decide) ?_
        refine v_goto C 35 dX11_isOperand_31 (by decide) ?_
        exact v_ireturn C dX11_isOperand_35 hr (rfl) (Nat.le_of_ble_eq_true rfl) (Nat.le_of_ble_eq_true rfl) (⟨rfl, bI_t (by unfold isOpd; rw [decide_eq_true (p := z = -20) c2]; simp)⟩)
      · skip
        refine v_iload_n C dX11_isOperand_24 (j := 0) rfl rfl ?_
        refine v_bipush C dX11_isOperand_25 (v := (-21)) (by decide) ?_
        refine v_icmp_ne C 34 dX11_isOperand_27 (by decide) (fun c3 => ?_) (fun c3 => ?_)
        · skip
          refine v_iconst C dX11_isOperand_34 (v := 0) (by decide) ?_
          exact v_ireturn C dX11_isOperand_35 hr (rfl) (Nat.le_of_ble_eq_true rfl) (Nat.le_of_ble_eq_true rfl) (⟨rfl, bI_f (by unfold isOpd; rw [e1, hw, decide_eq_false (p := z = -20) c2, decide_eq_false (p := z = -21) c3]; rfl)⟩)
        · skip
          refine v_iconst C dX11_isOperand_30 (v := 1) (by decide) ?_
          refine v_goto C 35 dX11_isOperand_31 (by decide) ?_
          exact v_ireturn C dX11_isOperand_35 hr (rfl) (Nat.le_of_ble_eq_true rfl) (Nat.le_of_ble_eq_true rfl) (⟨rfl, bI_t (by unfold isOpd; rw [decide_eq_true (p := z = -21) c3]; simp)⟩)
    · skip
      refine v_iload_n C dX11_isOperand_7 (j := 0) rfl rfl ?_
      refine v_bipush C dX11_isOperand_8 (v := (-13)) (by decide) ?_
      refine v_icmp_lt C 18 dX11_isOperand_10 (by decide) (fun c2 => ?_) (fun c2 => ?_)
      · skip
        exact K (by rw [decide_eq_false (Int32.not_le.mpr c2)]; rfl)
      · skip
        refine v_iload_n C dX11_isOperand_13 (j := 0) rfl rfl ?_
        refine v_iconst C dX11_isOperand_14 (v := (-1)) (by decide) ?_
        refine v_icmp_le C 30 dX11_isOperand_15 (by decide) (fun c3 => ?_) (fun c3 => ?_)
        · skip
          refine v_iconst C dX11_isOperand_30 (v := 1) (by decide) ?_
          refine v_goto C 35 dX11_isOperand_31 (by decide) ?_
          exact v_ireturn C dX11_isOperand_35 hr (rfl) (Nat.le_of_ble_eq_true rfl) (Nat.le_of_ble_eq_true rfl) (⟨rfl, bI_t (by unfold isOpd; rw [decide_eq_true (Int32.not_lt.mp c2), decide_eq_true (p := z ≤ -1) c3]; simp)⟩)
        · skip
          exact K (by rw [decide_eq_false (p := z ≤ -1) c3, Bool.and_false])
set_option maxRecDepth 100000 in
set_option maxHeartbeats 4000000 in
theorem k_isPattern (kd a b : Int32) : ct D tys z0 A pic l yX11_isPattern wsX11_isPattern (rmL 1 20) [.int kd, .int a, .int b] x (qI pic A (fun r x' => x' = x ∧ r = bI (isPat kd a b))) := by
  refine ct_of RX11 (by decide +kernel) rfl rfl (Nat.le_of_ble_eq_true rfl) ?_
  intro p e s m below meth c C hr hm
  refine v_lv (lv' := [(0, _), (1, _), (2, _)]) rfl ?_
  by_cases h0 : kd = 0
  · skip
    refine v_iload_n C dX11_isPattern_0 (j := 0) rfl rfl ?_
    refine v_tabIn C 32 dX11_isPattern_1 (off := 31) (by rw [h0]; decide) (by rw [h0]; decide) (by rw [h0]; rfl) (by decide) ?_
    refine v_iconst C dX11_isPattern_32 (v := 1) (by decide) ?_
    exact v_ireturn C dX11_isPattern_33 hr (rfl) (Nat.le_of_ble_eq_true rfl) (Nat.le_of_ble_eq_true rfl) (⟨rfl, bI_t (by unfold isPat; rw [if_pos h0])⟩)
  · skip
    by_cases h1 : kd = 1
    · skip
      refine v_iload_n C dX11_isPattern_0 (j := 0) rfl rfl ?_
      refine v_tabIn C 34 dX11_isPattern_1 (off := 33) (by rw [h1]; decide) (by rw [h1]; decide) (by rw [h1]; rfl) (by decide) ?_
      refine v_iload_n C dX11_isPattern_34 (j := 1) rfl rfl ?_
      refine v_ci (v_runS C (k_isField a) (va_cwS 1 C.1.2.2.2.2 gX11_isPattern_X11_isField rfl rfl rfl (by decide +kernel) ⟨Nat.le_of_ble_eq_true rfl, Nat.le_of_ble_eq_true rfl⟩) rfl dX11_isPattern_35 (rest := []) (Nat.le_of_ble_eq_true rfl) rfl ⟨Nat.le_of_ble_eq_true rfl, Nat.le_of_ble_eq_true rfl⟩) (fun q x' hx' => ?_)
      obtain ⟨rfl, rfl⟩ := hx'
      refine v_if_eq C 52 dX11_isPattern_38 (by decide) (fun c1 => ?_) (fun c1 => ?_)
      · skip
        refine v_iconst C dX11_isPattern_52 (v := 0) (by decide) ?_
        exact v_ireturn C dX11_isPattern_53 hr (rfl) (Nat.le_of_ble_eq_true rfl) (Nat.le_of_ble_eq_true rfl) (⟨rfl, bI_f (by unfold isPat; rw [if_neg h0, if_pos h1, bI_0 c1]; rfl)⟩)
      · skip
        refine v_iload_n C dX11_isPattern_41 (j := 2) rfl rfl ?_
        refine v_ci (v_runS C (k_isNumber b) (va_cwS 1 C.1.2.2.2.2 gX11_isPattern_X11_isNumber rfl rfl rfl (by decide +kernel) ⟨Nat.le_of_ble_eq_true rfl, Nat.le_of_ble_eq_true rfl⟩) rfl dX11_isPattern_42 (rest := []) (Nat.le_of_ble_eq_true rfl) rfl ⟨Nat.le_of_ble_eq_true rfl, Nat.le_of_ble_eq_true rfl⟩) (fun q x' hx' => ?_)
        obtain ⟨rfl, rfl⟩ := hx'
        refine v_if_eq C 52 dX11_isPattern_45 (by decide) (fun c2 => ?_) (fun c2 => ?_)
        · skip
          refine v_iconst C dX11_isPattern_52 (v := 0) (by decide) ?_
          exact v_ireturn C dX11_isPattern_53 hr (rfl) (Nat.le_of_ble_eq_true rfl) (Nat.le_of_ble_eq_true rfl) (⟨rfl, bI_f (by unfold isPat; rw [if_neg h0, if_pos h1, bI_0 c2, Bool.and_false])⟩)
        · skip
          refine v_iconst C dX11_isPattern_48 (v := 1) (by decide) ?_
          refine v_goto C 53 dX11_isPattern_49 (by decide) ?_
          exact v_ireturn C dX11_isPattern_53 hr (rfl) (Nat.le_of_ble_eq_true rfl) (Nat.le_of_ble_eq_true rfl) (⟨rfl, bI_t (by unfold isPat; rw [if_neg h0, if_pos h1, bI_1 c1, bI_1 c2]; rfl)⟩)
    · skip
      by_cases h2 : kd = 2
      · skip
        refine v_iload_n C dX11_isPattern_0 (j := 0) rfl rfl ?_
        refine v_tabIn C 54 dX11_isPattern_1 (off := 53) (by rw [h2]; decide) (by rw [h2]; decide) (by rw [h2]; rfl) (by decide) ?_
        refine v_iload_n C dX11_isPattern_54 (j := 1) rfl rfl ?_
        refine v_ci (v_runS C (k_isField a) (va_cwS 1 C.1.2.2.2.2 gX11_isPattern_X11_isField rfl rfl rfl (by decide +kernel) ⟨Nat.le_of_ble_eq_true rfl, Nat.le_of_ble_eq_true rfl⟩) rfl dX11_isPattern_55 (rest := []) (Nat.le_of_ble_eq_true rfl) rfl ⟨Nat.le_of_ble_eq_true rfl, Nat.le_of_ble_eq_true rfl⟩) (fun q x' hx' => ?_)
        obtain ⟨rfl, rfl⟩ := hx'
        refine v_if_eq C 72 dX11_isPattern_58 (by decide) (fun c1 => ?_) (fun c1 => ?_)
        · skip
          refine v_iconst C dX11_isPattern_72 (v := 0) (by decide) ?_
          exact v_ireturn C dX11_isPattern_73 hr (rfl) (Nat.le_of_ble_eq_true rfl) (Nat.le_of_ble_eq_true rfl) (⟨rfl, bI_f (by unfold isPat; rw [if_neg h0, if_neg h1, if_pos h2, bI_0 c1]; rfl)⟩)
        · skip
          refine v_iload_n C dX11_isPattern_61 (j := 2) rfl rfl ?_
          refine v_ci (v_runS C (k_isField b) (va_cwS 1 C.1.2.2.2.2 gX11_isPattern_X11_isField rfl rfl rfl (by decide +kernel) ⟨Nat.le_of_ble_eq_true rfl, Nat.le_of_ble_eq_true rfl⟩) rfl dX11_isPattern_62 (rest := []) (Nat.le_of_ble_eq_true rfl) rfl ⟨Nat.le_of_ble_eq_true rfl, Nat.le_of_ble_eq_true rfl⟩) (fun q x' hx' => ?_)
          obtain ⟨rfl, rfl⟩ := hx'
          refine v_if_eq C 72 dX11_isPattern_65 (by decide) (fun c2 => ?_) (fun c2 => ?_)
          · skip
            refine v_iconst C dX11_isPattern_72 (v := 0) (by decide) ?_
            exact v_ireturn C dX11_isPattern_73 hr (rfl) (Nat.le_of_ble_eq_true rfl) (Nat.le_of_ble_eq_true rfl) (⟨rfl, bI_f (by unfold isPat; rw [if_neg h0, if_neg h1, if_pos h2, bI_0 c2, Bool.and_false])⟩)
          · skip
            refine v_iconst C dX11_isPattern_68 (v := 1) (by decide) ?_
            refine v_goto C 73 dX11_isPattern_69 (by decide) ?_
            exact v_ireturn C dX11_isPattern_73 hr (rfl) (Nat.le_of_ble_eq_true rfl) (Nat.le_of_ble_eq_true rfl) (⟨rfl, bI_t (by unfold isPat; rw [if_neg h0, if_neg h1, if_pos h2, bI_1 c1, bI_1 c2]; rfl)⟩)
      · skip
        by_cases h3 : kd = 3
        · skip
          refine v_iload_n C dX11_isPattern_0 (j := 0) rfl rfl ?_
          refine v_tabIn C 74 dX11_isPattern_1 (off := 73) (by rw [h3]; decide) (by rw [h3]; decide) (by rw [h3]; rfl) (by decide) ?_
          refine v_iload_n C dX11_isPattern_74 (j := 1) rfl rfl ?_
          refine v_ci (v_runS C (k_isNumber a) (va_cwS 1 C.1.2.2.2.2 gX11_isPattern_X11_isNumber rfl rfl rfl (by decide +kernel) ⟨Nat.le_of_ble_eq_true rfl, Nat.le_of_ble_eq_true rfl⟩) rfl dX11_isPattern_75 (rest := []) (Nat.le_of_ble_eq_true rfl) rfl ⟨Nat.le_of_ble_eq_true rfl, Nat.le_of_ble_eq_true rfl⟩) (fun q x' hx' => ?_)
          obtain ⟨rfl, rfl⟩ := hx'
          refine v_if_eq C 92 dX11_isPattern_78 (by decide) (fun c1 => ?_) (fun c1 => ?_)
          · skip
            refine v_iconst C dX11_isPattern_92 (v := 0) (by decide) ?_
            exact v_ireturn C dX11_isPattern_93 hr (rfl) (Nat.le_of_ble_eq_true rfl) (Nat.le_of_ble_eq_true rfl) (⟨rfl, bI_f (by unfold isPat; rw [if_neg h0, if_neg h1, if_neg h2, if_pos h3, bI_0 c1]; rfl)⟩)
          · skip
            refine v_iload_n C dX11_isPattern_81 (j := 2) rfl rfl ?_
            refine v_ci (v_runS C (k_isNumber b) (va_cwS 1 C.1.2.2.2.2 gX11_isPattern_X11_isNumber rfl rfl rfl (by decide +kernel) ⟨Nat.le_of_ble_eq_true rfl, Nat.le_of_ble_eq_true rfl⟩) rfl dX11_isPattern_82 (rest := []) (Nat.le_of_ble_eq_true rfl) rfl ⟨Nat.le_of_ble_eq_true rfl, Nat.le_of_ble_eq_true rfl⟩) (fun q x' hx' => ?_)
            obtain ⟨rfl, rfl⟩ := hx'
            refine v_if_eq C 92 dX11_isPattern_85 (by decide) (fun c2 => ?_) (fun c2 => ?_)
            · skip
              refine v_iconst C dX11_isPattern_92 (v := 0) (by decide) ?_
              exact v_ireturn C dX11_isPattern_93 hr (rfl) (Nat.le_of_ble_eq_true rfl) (Nat.le_of_ble_eq_true rfl) (⟨rfl, bI_f (by unfold isPat; rw [if_neg h0, if_neg h1, if_neg h2, if_pos h3, bI_0 c2, Bool.and_false])⟩)
            · skip
              refine v_iconst C dX11_isPattern_88 (v := 1) (by decide) ?_
              refine v_goto C 93 dX11_isPattern_89 (by decide) ?_
              exact v_ireturn C dX11_isPattern_93 hr (rfl) (Nat.le_of_ble_eq_true rfl) (Nat.le_of_ble_eq_true rfl) (⟨rfl, bI_t (by unfold isPat; rw [if_neg h0, if_neg h1, if_neg h2, if_pos h3, bI_1 c1, bI_1 c2]; rfl)⟩)
        · skip
          refine v_iload_n C dX11_isPattern_0 (j := 0) rfl rfl ?_
          refine v_tabOut C 94 dX11_isPattern_1 (by have q0 := i32_ne h0; have q1 := i32_ne h1; have q2 := i32_ne h2; have q3 := i32_ne h3; rw [show (0 : Int32).toInt = 0 from rfl] at q0; rw [show (1 : Int32).toInt = 1 from rfl] at q1; rw [show (2 : Int32).toInt = 2 from rfl] at q2; rw [show (3 : Int32).toInt = 3 from rfl] at q3; omega) (by decide) ?_
          refine v_iconst C dX11_isPattern_94 (v := 0) (by decide) ?_
          exact v_ireturn C dX11_isPattern_95 hr (rfl) (Nat.le_of_ble_eq_true rfl) (Nat.le_of_ble_eq_true rfl) (⟨rfl, bI_f (by unfold isPat; rw [if_neg h0, if_neg h1, if_neg h2, if_neg h3])⟩)
set_option maxRecDepth 100000 in
set_option maxHeartbeats 4000000 in
theorem k_requireCode (hl : l.stackTraces = false) (hg : gS pic) (z : Int32) : cX D tys z0 A pic l yX11_requireCode wsX11_requireCode ({ frames := 6, cells := 1, slots := 6, locals := 92 } : Room) [.int z] x (qV pic A (fun x' => x' = x ∧ isCd z = true)) (fun E x' => E = xIAE ∧ x' = x ∧ isCd z = false) := by
  refine cX_of RX11 (by decide +kernel) rfl rfl (Nat.le_of_ble_eq_true rfl) ?_
  intro p e s m below meth c C hr hex
  refine v_lv (lv' := [(0, _)]) rfl ?_
  refine v_iload_n C dX11_requireCode_0 (j := 0) rfl rfl ?_
  refine v_if_lt C 10 dX11_requireCode_1 (by decide) (fun c1 => ?_) (fun c1 => ?_)
  · skip
    exact v_throwS C hl (text := "no such character code") 17 rfl rfl wwX11_requireCode_cl58 wwX11_requireCode_in_IAE (by decide) wgX11_requireCode_IAE wbIAE woIAE dX11_requireCode_10 dX11_requireCode_13 dX11_requireCode_14 dX11_requireCode_16 dX11_requireCode_19 hex (Nat.le_of_ble_eq_true rfl) (Nat.le_of_ble_eq_true rfl) (Nat.le_of_ble_eq_true rfl) (Nat.le_of_ble_eq_true rfl) (Nat.le_of_ble_eq_true rfl) (Nat.le_of_ble_eq_true rfl) (hg) (⟨rfl, rfl, by unfold isCd; rw [decide_eq_false (Int32.not_le.mpr c1)]; rfl⟩)
  · skip
    refine v_iload_n C dX11_requireCode_4 (j := 0) rfl rfl ?_
    refine v_bipush C dX11_requireCode_5 (v := 37) (by decide) ?_
    refine v_icmp_le C 20 dX11_requireCode_7 (by decide) (fun c2 => ?_) (fun c2 => ?_)
    · skip
      refine v_xret ?_
      exact v_return C dX11_requireCode_20 hr (Nat.le_of_ble_eq_true rfl) (Nat.le_of_ble_eq_true rfl) (⟨rfl, by unfold isCd; rw [decide_eq_true (Int32.not_lt.mp c1), decide_eq_true c2]; rfl⟩)
    · skip
      exact v_throwS C hl (text := "no such character code") 17 rfl rfl wwX11_requireCode_cl58 wwX11_requireCode_in_IAE (by decide) wgX11_requireCode_IAE wbIAE woIAE dX11_requireCode_10 dX11_requireCode_13 dX11_requireCode_14 dX11_requireCode_16 dX11_requireCode_19 hex (Nat.le_of_ble_eq_true rfl) (Nat.le_of_ble_eq_true rfl) (Nat.le_of_ble_eq_true rfl) (Nat.le_of_ble_eq_true rfl) (Nat.le_of_ble_eq_true rfl) (Nat.le_of_ble_eq_true rfl) (hg) (⟨rfl, rfl, by unfold isCd; rw [decide_eq_false (p := z ≤ 37) c2, Bool.and_false]⟩)
set_option maxRecDepth 100000 in
set_option maxHeartbeats 4000000 in
theorem k_requirePlace (hl : l.stackTraces = false) (hg : gS pic) (z n0 : Int32) : cX D tys z0 A pic l yX11_requirePlace wsX11_requirePlace ({ frames := 6, cells := 1, slots := 6, locals := 92 } : Room) [.int z, .int n0] x (qV pic A (fun x' => x' = x ∧ 0 ≤ z ∧ z < n0)) (fun E x' => E = xIOO ∧ x' = x ∧ ¬ (0 ≤ z ∧ z < n0)) := by
  refine cX_of RX11 (by decide +kernel) rfl rfl (Nat.le_of_ble_eq_true rfl) ?_
  intro p e s m below meth c C hr hex
  refine v_lv (lv' := [(0, _), (1, _)]) rfl ?_
  refine v_iload_n C dX11_requirePlace_0 (j := 0) rfl rfl ?_
  refine v_if_lt C 9 dX11_requirePlace_1 (by decide) (fun c1 => ?_) (fun c1 => ?_)
  · skip
    exact v_throwS C hl (text := "no such place") 19 rfl rfl wwX11_requirePlace_cl83 wwX11_requirePlace_in_IOO (by decide) wgX11_requirePlace_IOO wbIOO woIOO dX11_requirePlace_9 dX11_requirePlace_12 dX11_requirePlace_13 dX11_requirePlace_15 dX11_requirePlace_18 hex (Nat.le_of_ble_eq_true rfl) (Nat.le_of_ble_eq_true rfl) (Nat.le_of_ble_eq_true rfl) (Nat.le_of_ble_eq_true rfl) (Nat.le_of_ble_eq_true rfl) (Nat.le_of_ble_eq_true rfl) (hg) (⟨rfl, rfl, fun h => Int32.not_le.mpr c1 h.1⟩)
  · skip
    refine v_iload_n C dX11_requirePlace_4 (j := 0) rfl rfl ?_
    refine v_iload_n C dX11_requirePlace_5 (j := 1) rfl rfl ?_
    refine v_icmp_lt C 19 dX11_requirePlace_6 (by decide) (fun c2 => ?_) (fun c2 => ?_)
    · skip
      refine v_xret ?_
      exact v_return C dX11_requirePlace_19 hr (Nat.le_of_ble_eq_true rfl) (Nat.le_of_ble_eq_true rfl) (⟨rfl, Int32.not_lt.mp c1, c2⟩)
    · skip
      exact v_throwS C hl (text := "no such place") 19 rfl rfl wwX11_requirePlace_cl83 wwX11_requirePlace_in_IOO (by decide) wgX11_requirePlace_IOO wbIOO woIOO dX11_requirePlace_9 dX11_requirePlace_12 dX11_requirePlace_13 dX11_requirePlace_15 dX11_requirePlace_18 hex (Nat.le_of_ble_eq_true rfl) (Nat.le_of_ble_eq_true rfl) (Nat.le_of_ble_eq_true rfl) (Nat.le_of_ble_eq_true rfl) (Nat.le_of_ble_eq_true rfl) (Nat.le_of_ble_eq_true rfl) (hg) (⟨rfl, rfl, fun h => c2 h.2⟩)
theorem atT_nar {s : List Int32} (h : chs s) (z : Int32) : narrow .char (.int (atT s z)) = .int (atT s z) := by
  unfold atT
  split
  · rename_i h1
    obtain ⟨k, hk, rfl⟩ := nI_of (Int32.not_lt.mpr h1.1)
    rw [nI_clamp hk]
    by_cases hl : k < s.length
    · exact chs_getD h hl
    · rw [List.getD_eq_getElem?_getD, List.getElem?_eq_none (by omega)]; rfl
  · rfl
theorem sgn_ch {z : Int32} (h : isCd z = true) : (sgn z).toUInt32 % 65536 = (sgn z).toUInt32 ∧ ch (sgn z) := by
  unfold isCd at h
  rw [Bool.and_eq_true] at h
  have h1 := of_decide_eq_true h.1
  have h2 := of_decide_eq_true h.2
  obtain ⟨k, hk, rfl⟩ := nI_of2 (M := 37) (n := 37) rfl (Int32.not_lt.mpr h1) h2
  have : ∀ k : Fin 38, (sgn (nI k.val)).toUInt32 % 65536 = (sgn (nI k.val)).toUInt32 ∧ narrow .char (.int (sgn (nI k.val))) = .int (sgn (nI k.val)) := by decide +kernel
  exact this ⟨k, by omega⟩
set_option maxRecDepth 100000 in
set_option maxHeartbeats 4000000 in
theorem k_signOf {z : Int32} (hz : isCd z = true) : ct D tys z0 A pic l yX11_signOf wsX11_signOf rm0 [.int z] x (qI pic A (fun r x' => x' = x ∧ r = sgn z)) := by
  refine ct_of RX11 (by decide +kernel) rfl rfl (Nat.le_of_ble_eq_true rfl) ?_
  intro p e s m below meth c C hr hm
  refine v_lv (lv' := [(0, _)]) rfl ?_
  have hq := sgn_ch hz
  refine v_iload_n C dX11_signOf_0 (j := 0) rfl rfl ?_
  refine v_bipush C dX11_signOf_1 (v := 36) (by decide) ?_
  refine v_icmp_ne C 9 dX11_signOf_3 (by decide) (fun c1 => ?_) (fun c1 => ?_)
  · skip
    refine v_iload_n C dX11_signOf_9 (j := 0) rfl rfl ?_
    refine v_bipush C dX11_signOf_10 (v := 37) (by decide) ?_
    refine v_icmp_ne C 18 dX11_signOf_12 (by decide) (fun c2 => ?_) (fun c2 => ?_)
    · skip
      refine v_cut (pcj := 38) (lvj := [(0, .int z)]) (stj := []) (fun w => w = sgn z) (fun w hw => ?_) (fun K => ?_)
      · skip
        subst hw
        refine v_i2c C dX11_signOf_38 ?_
        refine v_int (b := sgn z) (by rw [hq.1]; exact Int32.toInt32_toUInt32 _) ?_
        exact v_ireturn C dX11_signOf_39 hr (hq.2) (Nat.le_of_ble_eq_true rfl) (Nat.le_of_ble_eq_true rfl) (⟨rfl, rfl⟩)
      · skip
        refine v_iload_n C dX11_signOf_18 (j := 0) rfl rfl ?_
        refine v_bipush C dX11_signOf_19 (v := 10) (by decide) ?_
        refine v_icmp_ge C 31 dX11_signOf_21 (by decide) (fun c3 => ?_) (fun c3 => ?_)
        · skip
          refine v_bipush C dX11_signOf_31 (v := 97) (by decide) ?_
          refine v_iload_n C dX11_signOf_33 (j := 0) rfl rfl ?_
          refine v_bipush C dX11_signOf_34 (v := 10) (by decide) ?_
          refine v_isub C dX11_signOf_36 ?_
          refine v_iadd C dX11_signOf_37 ?_
          exact K _ (by unfold sgn; rw [if_neg c1, if_neg c2, if_neg (Int32.not_lt.mpr c3)])
        · skip
          refine v_bipush C dX11_signOf_24 (v := 48) (by decide) ?_
          refine v_iload_n C dX11_signOf_26 (j := 0) rfl rfl ?_
          refine v_iadd C dX11_signOf_27 ?_
          refine v_goto C 38 dX11_signOf_28 (by decide) ?_
          exact K _ (by unfold sgn; rw [if_neg c1, if_neg c2, if_pos (Int32.not_le.mp c3)])
    · skip
      refine v_bipush C dX11_signOf_15 (v := 44) (by decide) ?_
      exact v_ireturn C dX11_signOf_17 hr (rfl) (Nat.le_of_ble_eq_true rfl) (Nat.le_of_ble_eq_true rfl) (⟨rfl, by unfold sgn; rw [if_neg c1, if_pos c2]⟩)
  · skip
    refine v_bipush C dX11_signOf_6 (v := 32) (by decide) ?_
    exact v_ireturn C dX11_signOf_8 hr (rfl) (Nat.le_of_ble_eq_true rfl) (Nat.le_of_ble_eq_true rfl) (⟨rfl, by unfold sgn; rw [if_pos c1]⟩)
end HP
section HS
variable {l : Launch} {D : va_G} {tys : List (ClassId × FieldType)} {z0 : Nat} {A : Nat → Prop} {cC cT : ClassId} {f : Nat → Option va_E} {T : Nat → Option (List Int32)} {t : Nat} {s0 : List Int32}
set_option maxRecDepth 100000 in
set_option maxHeartbeats 4000000 in
theorem k_signAt (hl : l.stackTraces = false) (ht : tys[0]? = some (cC, .char)) (hT : T t = some s0) (z : Int32) : cX D tys z0 A (picF D cC A) l yX11_signAt wsX11_signAt ({ frames := 7, cells := 1, slots := 6, locals := 113 } : Room) [.ref t, .int z] (f, T) (qI (picF D cC A) A (fun r x => x = (f, T) ∧ (0 ≤ z ∧ z < nI s0.length) ∧ r = atT s0 z)) (fun E x => E = xIOO ∧ x = (f, T) ∧ ¬ (0 ≤ z ∧ z < nI s0.length)) := by
  refine cX_of RX11 (by decide +kernel) rfl rfl (Nat.le_of_ble_eq_true rfl) ?_
  intro p e s m below meth c C hr hex
  refine v_lv (lv' := [(0, _), (1, _)]) rfl ?_
  refine v_use (fun H hP => FF_le hT hP) (fun hle => ?_)
  refine v_iload_n C dX11_signAt_0 (j := 1) rfl rfl ?_
  refine v_aload_n C dX11_signAt_1 (j := 0) rfl rfl ?_
  refine v_getN C (T := TX10) (ci := 10) (j := 1) dX11_signAt_2 wiX11_signAt_X10 rfl (by decide) (v_nw C 27 rfl) (fun _ h => h) (FF_len hT) ?_
  refine x_cv (x_runS C (k_requirePlace hl gS_F z (nI s0.length)) (va_cwS 2 C.1.2.2.2.2 gX11_signAt_X11_requirePlace rfl rfl rfl (by decide +kernel) ⟨Nat.le_of_ble_eq_true rfl, Nat.le_of_ble_eq_true rfl⟩) rfl dX11_signAt_5 (rest := []) (Nat.le_of_ble_eq_true rfl) rfl ⟨Nat.le_of_ble_eq_true rfl, Nat.le_of_ble_eq_true rfl⟩) (fun E x' hx' => v_xout C hex (Nat.le_of_ble_eq_true rfl) (Nat.le_of_ble_eq_true rfl) ⟨hx'.1, hx'.2.1, hx'.2.2⟩) (fun x' hx' => ?_)
  obtain ⟨rfl, hz⟩ := hx'
  refine v_aload_n C dX11_signAt_8 (j := 0) rfl rfl ?_
  refine v_iload_n C dX11_signAt_9 (j := 1) rfl rfl ?_
  refine v_ci (v_runV C (k_at ht hT z) (cwV 1 C.1.2.2.2.2 gX11_signAt_X10_at rfl rfl rfl (by decide +kernel) ⟨Nat.le_of_ble_eq_true rfl, Nat.le_of_ble_eq_true rfl⟩) rfl rfl (FF_txt hT) dX11_signAt_10 (rest := []) (Nat.le_of_ble_eq_true rfl) rfl ⟨Nat.le_of_ble_eq_true rfl, Nat.le_of_ble_eq_true rfl⟩) (fun q x' hx' => ?_)
  obtain ⟨rfl, rfl⟩ := hx'
  refine v_xret ?_
  exact v_ireturn C dX11_signAt_13 hr (atT_nar hle.2 z) (Nat.le_of_ble_eq_true rfl) (Nat.le_of_ble_eq_true rfl) (⟨rfl, hz, rfl⟩)
end HS
