/-! ===== the reference: its public methods ===== -/
theorem wfX12_fields_81 : Cond.fieldLink RX12 81 "FieldScribeModel" (TX12 33).2.1 (TX12 33).2.2.1 ∈ wsX12_fields := by decide +kernel
theorem wiX12_fields_X12 : ∀ w ∈ u_ws RX12 TX12 34, w ∈ wsX12_fields := by decide +kernel
theorem wfX12_fields_88 : Cond.fieldLink RX12 88 "FieldScribeModel" (TX12 3).2.1 (TX12 3).2.2.1 ∈ wsX12_fields := by decide +kernel
theorem wfX12_rows_81 : Cond.fieldLink RX12 81 "FieldScribeModel" (TX12 33).2.1 (TX12 33).2.2.1 ∈ wsX12_rows := by decide +kernel
theorem wiX12_rows_X12 : ∀ w ∈ u_ws RX12 TX12 34, w ∈ wsX12_rows := by decide +kernel
theorem wfX12_rows_193 : Cond.fieldLink RX12 193 "FieldScribeModel" (TX12 21).2.1 (TX12 21).2.2.1 ∈ wsX12_rows := by decide +kernel
theorem wfX12_lines_81 : Cond.fieldLink RX12 81 "FieldScribeModel" (TX12 33).2.1 (TX12 33).2.2.1 ∈ wsX12_lines := by decide +kernel
theorem wiX12_lines_X12 : ∀ w ∈ u_ws RX12 TX12 34, w ∈ wsX12_lines := by decide +kernel
theorem wfX12_lines_199 : Cond.fieldLink RX12 199 "FieldScribeModel" (TX12 25).2.1 (TX12 25).2.2.1 ∈ wsX12_lines := by decide +kernel
theorem wfX12_faults_81 : Cond.fieldLink RX12 81 "FieldScribeModel" (TX12 33).2.1 (TX12 33).2.2.1 ∈ wsX12_faults := by decide +kernel
theorem wiX12_faults_X12 : ∀ w ∈ u_ws RX12 TX12 34, w ∈ wsX12_faults := by decide +kernel
theorem wfX12_faults_165 : Cond.fieldLink RX12 165 "FieldScribeModel" (TX12 9).2.1 (TX12 9).2.2.1 ∈ wsX12_faults := by decide +kernel
theorem wfX12_useStack_81 : Cond.fieldLink RX12 81 "FieldScribeModel" (TX12 33).2.1 (TX12 33).2.2.1 ∈ wsX12_useStack := by decide +kernel
theorem wiX12_useStack_X12 : ∀ w ∈ u_ws RX12 TX12 34, w ∈ wsX12_useStack := by decide +kernel
theorem wfX12_setField_88 : Cond.fieldLink RX12 88 "FieldScribeModel" (TX12 3).2.1 (TX12 3).2.2.1 ∈ wsX12_setField := by decide +kernel
theorem wiX12_setField_X12 : ∀ w ∈ u_ws RX12 TX12 34, w ∈ wsX12_setField := by decide +kernel
theorem wfX12_setSeparator_7 : Cond.fieldLink RX12 7 "FieldScribeModel" (TX12 0).2.1 (TX12 0).2.2.1 ∈ wsX12_setSeparator := by decide +kernel
theorem wiX12_setSeparator_X12 : ∀ w ∈ u_ws RX12 TX12 34, w ∈ wsX12_setSeparator := by decide +kernel
theorem wfX12_setSeparator_88 : Cond.fieldLink RX12 88 "FieldScribeModel" (TX12 3).2.1 (TX12 3).2.2.1 ∈ wsX12_setSeparator := by decide +kernel
theorem wfX12_type_183 : Cond.fieldLink RX12 183 "FieldScribeModel" (TX12 7).2.1 (TX12 7).2.2.1 ∈ wsX12_type := by decide +kernel
theorem wiX12_type_X12 : ∀ w ∈ u_ws RX12 TX12 34, w ∈ wsX12_type := by decide +kernel
theorem wfX12_type_23 : Cond.fieldLink RX12 23 "FieldScribeModel" (TX12 6).2.1 (TX12 6).2.2.1 ∈ wsX12_type := by decide +kernel
theorem wfX12_row_193 : Cond.fieldLink RX12 193 "FieldScribeModel" (TX12 21).2.1 (TX12 21).2.2.1 ∈ wsX12_row := by decide +kernel
theorem wiX12_row_X12 : ∀ w ∈ u_ws RX12 TX12 34, w ∈ wsX12_row := by decide +kernel
theorem wfX12_row_63 : Cond.fieldLink RX12 63 "FieldScribeModel" (TX12 24).2.1 (TX12 24).2.2.1 ∈ wsX12_row := by decide +kernel
section MQ
variable {l : Launch} {D : va_G} {tys : List (ClassId × FieldType)} {z0 : Nat} {A : Nat → Prop} {cI cZ : ClassId} {md : Nat} {ad : Nat → Nat} {I : Nat → Int32} {M : Nat → Nat → Int32} {sep rnum : Int32} {w : WS} {typ : List Int32} {rls : List Rl}
set_option maxRecDepth 100000 in
set_option maxHeartbeats 8000000 in
theorem m_fields : ct D tys z0 A (picM D cI cZ md ad A) l yX12_fields wsX12_fields rm0 [.ref md] (I, M) (qI (picM D cI cZ md ad A) A (fun q x => x = (va_up I 33 0, M) ∧ q = I 3)) := by
  refine ct_of RX12 (by decide +kernel) rfl rfl (Nat.le_of_ble_eq_true rfl) ?_
  intro p e s m below meth c C hr hm
  refine v_lv (lv' := [(0, _)]) rfl ?_
  refine v_aload_n C dX12_fields_0 (j := 0) rfl rfl ?_
  refine v_iconst C dX12_fields_1 (v := 0) (by decide) ?_
  refine v_put C (T := TX12) (ci := 12) (j := 33) (ty := .int) dX12_fields_2 wiX12_fields_X12 tyX12 tyX12_ok nmX12 rfl (by decide) wfX12_fields_81 (fun _ h => h) rfl rfl (rfl) (rfl) (M_put rfl (by decide) _) ?_
  refine v_aload_n C dX12_fields_5 (j := 0) rfl rfl ?_
  refine v_get C (T := TX12) (ci := 12) (j := 3) dX12_fields_6 wiX12_fields_X12 rfl (by decide) wfX12_fields_88 (fun _ h => h) (M_int rfl (by decide)) ?_
  exact v_ireturn C dX12_fields_9 hr (rfl) (Nat.le_of_ble_eq_true rfl) (Nat.le_of_ble_eq_true rfl) (⟨rfl, va_up_other _ _ _ (by decide)⟩)
set_option maxRecDepth 100000 in
set_option maxHeartbeats 8000000 in
theorem m_rows : ct D tys z0 A (picM D cI cZ md ad A) l yX12_rows wsX12_rows rm0 [.ref md] (I, M) (qI (picM D cI cZ md ad A) A (fun q x => x = (va_up I 33 0, M) ∧ q = I 21)) := by
  refine ct_of RX12 (by decide +kernel) rfl rfl (Nat.le_of_ble_eq_true rfl) ?_
  intro p e s m below meth c C hr hm
  refine v_lv (lv' := [(0, _)]) rfl ?_
  refine v_aload_n C dX12_rows_0 (j := 0) rfl rfl ?_
  refine v_iconst C dX12_rows_1 (v := 0) (by decide) ?_
  refine v_put C (T := TX12) (ci := 12) (j := 33) (ty := .int) dX12_rows_2 wiX12_rows_X12 tyX12 tyX12_ok nmX12 rfl (by decide) wfX12_rows_81 (fun _ h => h) rfl rfl (rfl) (rfl) (M_put rfl (by decide) _) ?_
  refine v_aload_n C dX12_rows_5 (j := 0) rfl rfl ?_
  refine v_get C (T := TX12) (ci := 12) (j := 21) dX12_rows_6 wiX12_rows_X12 rfl (by decide) wfX12_rows_193 (fun _ h => h) (M_int rfl (by decide)) ?_
  exact v_ireturn C dX12_rows_9 hr (rfl) (Nat.le_of_ble_eq_true rfl) (Nat.le_of_ble_eq_true rfl) (⟨rfl, va_up_other _ _ _ (by decide)⟩)
set_option maxRecDepth 100000 in
set_option maxHeartbeats 8000000 in
theorem m_lines : ct D tys z0 A (picM D cI cZ md ad A) l yX12_lines wsX12_lines rm0 [.ref md] (I, M) (qI (picM D cI cZ md ad A) A (fun q x => x = (va_up I 33 0, M) ∧ q = I 25)) := by
  refine ct_of RX12 (by decide +kernel) rfl rfl (Nat.le_of_ble_eq_true rfl) ?_
  intro p e s m below meth c C hr hm
  refine v_lv (lv' := [(0, _)]) rfl ?_
  refine v_aload_n C dX12_lines_0 (j := 0) rfl rfl ?_
  refine v_iconst C dX12_lines_1 (v := 0) (by decide) ?_
  refine v_put C (T := TX12) (ci := 12) (j := 33) (ty := .int) dX12_lines_2 wiX12_lines_X12 tyX12 tyX12_ok nmX12 rfl (by decide) wfX12_lines_81 (fun _ h => h) rfl rfl (rfl) (rfl) (M_put rfl (by decide) _) ?_
  refine v_aload_n C dX12_lines_5 (j := 0) rfl rfl ?_
  refine v_get C (T := TX12) (ci := 12) (j := 25) dX12_lines_6 wiX12_lines_X12 rfl (by decide) wfX12_lines_199 (fun _ h => h) (M_int rfl (by decide)) ?_
  exact v_ireturn C dX12_lines_9 hr (rfl) (Nat.le_of_ble_eq_true rfl) (Nat.le_of_ble_eq_true rfl) (⟨rfl, va_up_other _ _ _ (by decide)⟩)
set_option maxRecDepth 100000 in
set_option maxHeartbeats 8000000 in
theorem m_faults : ct D tys z0 A (picM D cI cZ md ad A) l yX12_faults wsX12_faults rm0 [.ref md] (I, M) (qI (picM D cI cZ md ad A) A (fun q x => x = (va_up I 33 0, M) ∧ q = I 9)) := by
  refine ct_of RX12 (by decide +kernel) rfl rfl (Nat.le_of_ble_eq_true rfl) ?_
  intro p e s m below meth c C hr hm
  refine v_lv (lv' := [(0, _)]) rfl ?_
  refine v_aload_n C dX12_faults_0 (j := 0) rfl rfl ?_
  refine v_iconst C dX12_faults_1 (v := 0) (by decide) ?_
  refine v_put C (T := TX12) (ci := 12) (j := 33) (ty := .int) dX12_faults_2 wiX12_faults_X12 tyX12 tyX12_ok nmX12 rfl (by decide) wfX12_faults_81 (fun _ h => h) rfl rfl (rfl) (rfl) (M_put rfl (by decide) _) ?_
  refine v_aload_n C dX12_faults_5 (j := 0) rfl rfl ?_
  refine v_get C (T := TX12) (ci := 12) (j := 9) dX12_faults_6 wiX12_faults_X12 rfl (by decide) wfX12_faults_165 (fun _ h => h) (M_int rfl (by decide)) ?_
  exact v_ireturn C dX12_faults_9 hr (rfl) (Nat.le_of_ble_eq_true rfl) (Nat.le_of_ble_eq_true rfl) (⟨rfl, va_up_other _ _ _ (by decide)⟩)
set_option maxRecDepth 100000 in
set_option maxHeartbeats 8000000 in
theorem m_useStack (b : Int32) : ct D tys z0 A (picM D cI cZ md ad A) l yX12_useStack wsX12_useStack rm0 [.ref md, .int b] (I, M) (qV (picM D cI cZ md ad A) A (fun x => x = (va_up I 33 0, M))) := by
  refine ct_of RX12 (by decide +kernel) rfl rfl (Nat.le_of_ble_eq_true rfl) ?_
  intro p e s m below meth c C hr hm
  refine v_lv (lv' := [(0, _), (1, _)]) rfl ?_
  refine v_aload_n C dX12_useStack_0 (j := 0) rfl rfl ?_
  refine v_iconst C dX12_useStack_1 (v := 0) (by decide) ?_
  refine v_put C (T := TX12) (ci := 12) (j := 33) (ty := .int) dX12_useStack_2 wiX12_useStack_X12 tyX12 tyX12_ok nmX12 rfl (by decide) wfX12_useStack_81 (fun _ h => h) rfl rfl (rfl) (rfl) (M_put rfl (by decide) _) ?_
  exact v_return C dX12_useStack_5 hr (Nat.le_of_ble_eq_true rfl) (Nat.le_of_ble_eq_true rfl) (rfl)
set_option maxRecDepth 100000 in
set_option maxHeartbeats 8000000 in
theorem m_number (ht1 : tys[1]? = some (cI, .int)) (hW : mW I M sep rnum w) (z : Int32) : ct D tys z0 A (picM D cI cZ md ad A) l yX12_number wsX12_number (rmL 4 92) [.ref md, .int z] (I, M) (qI (picM D cI cZ md ad A) A (fun q x => if isFd z = true then x = (va_up I 33 0, M) ∧ q = num (fld sep w.1 z.toNatClampNeg) else x = (va_up I 33 1, M))) := by
  refine ct_of RX12 (by decide +kernel) rfl rfl (Nat.le_of_ble_eq_true rfl) ?_
  intro p e s m below meth c C hr hm
  refine v_lv (lv' := [(0, _), (1, _)]) rfl ?_
  refine v_aload_n C dX12_number_0 (j := 0) rfl rfl ?_
  refine v_iload_n C dX12_number_1 (j := 1) rfl rfl ?_
  refine v_ci (v_runS C (m_isField z) (va_cwS 1 C.1.2.2.2.2 gX12_number_X12_isField rfl rfl rfl (by decide +kernel) ⟨Nat.le_of_ble_eq_true rfl, Nat.le_of_ble_eq_true rfl⟩) rfl dX12_number_2 (rest := [_]) (Nat.le_of_ble_eq_true rfl) rfl ⟨(by first | exact Nat.le_of_ble_eq_true rfl | (dsimp only; omega)), (by first | exact Nat.le_of_ble_eq_true rfl | (dsimp only; omega))⟩) (fun q x' hx' => ?_)
  obtain ⟨rfl, rfl⟩ := hx'
  refine v_if_eq C 12 dX12_number_5 (by decide) (fun c1 => ?_) (fun c1 => ?_)
  · skip
    have hz := bI_0 c1
    refine v_iconst C dX12_number_12 (v := 1) (by decide) ?_
    refine v_ci (v_runV C (m_fails 1) (cwV 1 C.1.2.2.2.2 gX12_number_X12_fails rfl rfl rfl (by decide +kernel) ⟨Nat.le_of_ble_eq_true rfl, Nat.le_of_ble_eq_true rfl⟩) rfl rfl (M_gC) dX12_number_13 (rest := []) (Nat.le_of_ble_eq_true rfl) rfl ⟨(by first | exact Nat.le_of_ble_eq_true rfl | (dsimp only; omega)), (by first | exact Nat.le_of_ble_eq_true rfl | (dsimp only; omega))⟩) (fun q x' hx' => ?_)
    obtain ⟨rfl, rfl⟩ := hx'
    refine v_if_eq C 23 dX12_number_16 (by decide) (fun c2 => absurd c2 (by intro; exact absurd c2 (by decide))) (fun c2 => ?_)
    refine v_iconst C dX12_number_19 (v := 0) (by decide) ?_
    refine v_goto C 28 dX12_number_20 (by decide) ?_
    exact v_ireturn C dX12_number_28 hr (rfl) (Nat.le_of_ble_eq_true rfl) (Nat.le_of_ble_eq_true rfl) (by rw [if_neg (by rw [hz]; decide)])
  · skip
    have hz := bI_1 c1
    obtain ⟨k, hk, rfl⟩ := isFd_nI hz
    refine v_iconst C dX12_number_8 (v := 0) (by decide) ?_
    refine v_goto C 13 dX12_number_9 (by decide) ?_
    refine v_ci (v_runV C (m_fails 0) (cwV 1 C.1.2.2.2.2 gX12_number_X12_fails rfl rfl rfl (by decide +kernel) ⟨Nat.le_of_ble_eq_true rfl, Nat.le_of_ble_eq_true rfl⟩) rfl rfl (M_gC) dX12_number_13 (rest := []) (Nat.le_of_ble_eq_true rfl) rfl ⟨(by first | exact Nat.le_of_ble_eq_true rfl | (dsimp only; omega)), (by first | exact Nat.le_of_ble_eq_true rfl | (dsimp only; omega))⟩) (fun q x' hx' => ?_)
    obtain ⟨rfl, rfl⟩ := hx'
    have hc : mch [33] [] I M (va_up I 33 0) M := mch_I (by decide) _
    have hR := hW.1.ch hc (by decide) (by decide)
    obtain ⟨b1, e1, hb1, he1, hs1⟩ := be hR (hW.2.1.ch hc (by decide) (by decide) (by decide) (by decide)) hk
    refine v_if_eq C 23 dX12_number_16 (by decide) (fun c2 => ?_) (fun c2 => absurd c2 (by intro h; exact h (by decide)))
    refine v_aload_n C dX12_number_23 (j := 0) rfl rfl ?_
    refine v_iload_n C dX12_number_24 (j := 1) rfl rfl ?_
    refine v_ci (v_runV C (m_numberOf ht1 hR hk hb1 he1 hs1) (cwV 1 C.1.2.2.2.2 gX12_number_X12_numberOf rfl rfl rfl (by decide +kernel) ⟨Nat.le_of_ble_eq_true rfl, Nat.le_of_ble_eq_true rfl⟩) rfl rfl (M_gC) dX12_number_25 (rest := []) (Nat.le_of_ble_eq_true rfl) rfl ⟨(by first | exact Nat.le_of_ble_eq_true rfl | (dsimp only; omega)), (by first | exact Nat.le_of_ble_eq_true rfl | (dsimp only; omega))⟩) (fun q x' hx' => ?_)
    obtain ⟨rfl, rfl⟩ := hx'
    exact v_ireturn C dX12_number_28 hr (rfl) (Nat.le_of_ble_eq_true rfl) (Nat.le_of_ble_eq_true rfl) (by rw [if_pos hz, nI_clamp (by omega)]; exact ⟨rfl, rfl⟩)
set_option maxRecDepth 100000 in
set_option maxHeartbeats 8000000 in
theorem m_setField (ht1 : tys[1]? = some (cI, .int)) (hW : mW I M sep rnum w) (z n0 : Int32) : ct D tys z0 A (picM D cI cZ md ad A) l yX12_setField wsX12_setField (rmL 3 66) [.ref md, .int z, .int n0] (I, M) (qI (picM D cI cZ md ad A) A (fun q x => if isFd z = true then ∃ I' M', x = (I', M') ∧ q = nI (nfd sep (setR sep w.1 z.toNatClampNeg (dec n0))) ∧ mW I' M' sep rnum (setR sep w.1 z.toNatClampNeg (dec n0), w.2) ∧ I' 33 = 0 ∧ mch (33 :: jsD) ksD I M I' M' else x = (va_up I 33 1, M))) := by
  obtain ⟨hR, hC, hrs, hls, h9, h8, hnd⟩ := hW
  refine ct_of RX12 (by decide +kernel) rfl rfl (Nat.le_of_ble_eq_true rfl) ?_
  intro p e s m below meth c C hr hm
  refine v_lv (lv' := [(0, _), (1, _), (2, _)]) rfl ?_
  refine v_aload_n C dX12_setField_0 (j := 0) rfl rfl ?_
  refine v_iload_n C dX12_setField_1 (j := 1) rfl rfl ?_
  refine v_ci (v_runS C (m_isField z) (va_cwS 1 C.1.2.2.2.2 gX12_setField_X12_isField rfl rfl rfl (by decide +kernel) ⟨Nat.le_of_ble_eq_true rfl, Nat.le_of_ble_eq_true rfl⟩) rfl dX12_setField_2 (rest := [_]) (Nat.le_of_ble_eq_true rfl) rfl ⟨(by first | exact Nat.le_of_ble_eq_true rfl | (dsimp only; omega)), (by first | exact Nat.le_of_ble_eq_true rfl | (dsimp only; omega))⟩) (fun q x' hx' => ?_)
  obtain ⟨rfl, rfl⟩ := hx'
  refine v_if_eq C 12 dX12_setField_5 (by decide) (fun c1 => ?_) (fun c1 => ?_)
  · skip
    have hz := bI_0 c1
    refine v_iconst C dX12_setField_12 (v := 1) (by decide) ?_
    refine v_ci (v_runV C (m_fails 1) (cwV 1 C.1.2.2.2.2 gX12_setField_X12_fails rfl rfl rfl (by decide +kernel) ⟨Nat.le_of_ble_eq_true rfl, Nat.le_of_ble_eq_true rfl⟩) rfl rfl (M_gC) dX12_setField_13 (rest := []) (Nat.le_of_ble_eq_true rfl) rfl ⟨(by first | exact Nat.le_of_ble_eq_true rfl | (dsimp only; omega)), (by first | exact Nat.le_of_ble_eq_true rfl | (dsimp only; omega))⟩) (fun q x' hx' => ?_)
    obtain ⟨rfl, rfl⟩ := hx'
    refine v_if_eq C 21 dX12_setField_16 (by decide) (fun c2 => absurd c2 (by intro; exact absurd c2 (by decide))) (fun c2 => ?_)
    refine v_iconst C dX12_setField_19 (v := 0) (by decide) ?_
    exact v_ireturn C dX12_setField_20 hr (rfl) (Nat.le_of_ble_eq_true rfl) (Nat.le_of_ble_eq_true rfl) (by rw [if_neg (by rw [hz]; decide)])
  · skip
    have hz := bI_1 c1
    obtain ⟨k, hk, rfl⟩ := isFd_nI hz
    refine v_iconst C dX12_setField_8 (v := 0) (by decide) ?_
    refine v_goto C 13 dX12_setField_9 (by decide) ?_
    refine v_ci (v_runV C (m_fails 0) (cwV 1 C.1.2.2.2.2 gX12_setField_X12_fails rfl rfl rfl (by decide +kernel) ⟨Nat.le_of_ble_eq_true rfl, Nat.le_of_ble_eq_true rfl⟩) rfl rfl (M_gC) dX12_setField_13 (rest := []) (Nat.le_of_ble_eq_true rfl) rfl ⟨(by first | exact Nat.le_of_ble_eq_true rfl | (dsimp only; omega)), (by first | exact Nat.le_of_ble_eq_true rfl | (dsimp only; omega))⟩) (fun q x' hx' => ?_)
    obtain ⟨rfl, rfl⟩ := hx'
    have hc : mch (33 :: jsD) ksD I M (va_up I 33 0) M := mch_I (by decide) _
    refine v_if_eq C 21 dX12_setField_16 (by decide) (fun c2 => ?_) (fun c2 => absurd c2 (by intro h; exact h (by decide)))
    refine v_aload_n C dX12_setField_21 (j := 0) rfl rfl ?_
    refine v_iload_n C dX12_setField_22 (j := 2) rfl rfl ?_
    refine v_cv (v_runV C (m_writes ht1 n0) (cwV 1 C.1.2.2.2.2 gX12_setField_X12_writes rfl rfl rfl (by decide +kernel) ⟨Nat.le_of_ble_eq_true rfl, Nat.le_of_ble_eq_true rfl⟩) rfl rfl (M_gC) dX12_setField_23 (rest := []) (Nat.le_of_ble_eq_true rfl) rfl ⟨(by first | exact Nat.le_of_ble_eq_true rfl | (dsimp only; omega)), (by first | exact Nat.le_of_ble_eq_true rfl | (dsimp only; omega))⟩) (fun x' hx' => ?_)
    obtain ⟨I2, M2, rfl, k1, k2⟩ := hx'
    have hc1 : mch [33, 29] [28, 32] I M I2 M2 := (mch_I (j := 33) (by decide) _).tr (k2.mo (by decide) (by decide))
    refine v_aload_n C dX12_setField_26 (j := 0) rfl rfl ?_
    refine v_iload_n C dX12_setField_27 (j := 1) rfl rfl ?_
    refine v_cv (v_runV C (m_sets ht1 (hR.ch hc1 (by decide) (by decide)) (hC.ch hc1 (by decide) (by decide) (by decide) (by decide)) k1 hk) (cwV 1 C.1.2.2.2.2 gX12_setField_X12_sets rfl rfl rfl (by decide +kernel) ⟨Nat.le_of_ble_eq_true rfl, Nat.le_of_ble_eq_true rfl⟩) rfl rfl (M_gC) dX12_setField_28 (rest := []) (Nat.le_of_ble_eq_true rfl) rfl ⟨(by first | exact Nat.le_of_ble_eq_true rfl | (dsimp only; omega)), (by first | exact Nat.le_of_ble_eq_true rfl | (dsimp only; omega))⟩) (fun x' hx' => ?_)
    obtain ⟨I3, M3, rfl, m1, m2, m3⟩ := hx'
    have hc3 : mch (33 :: jsD) ksD I M I3 M3 := (hc1.mo (by decide) (by decide)).tr (m3.mo (by decide) (by decide))
    refine v_aload_n C dX12_setField_31 (j := 0) rfl rfl ?_
    refine v_get C (T := TX12) (ci := 12) (j := 3) dX12_setField_32 wiX12_setField_X12 rfl (by decide) wfX12_setField_88 (fun _ h => h) (M_int rfl (by decide)) ?_
    exact v_ireturn C dX12_setField_35 hr (rfl) (Nat.le_of_ble_eq_true rfl) (Nat.le_of_ble_eq_true rfl) (by rw [if_pos hz, nI_clamp (by omega)]; exact ⟨I3, M3, rfl, m2.2.1, ⟨m1, m2, (hrs.ch hc1 (by decide) (by decide) (by decide) (by decide)).ch m3 (by decide) (by decide) (by decide) (by decide), (hls.ch hc1 (by decide) (by decide) (by decide)).ch m3 (by decide) (by decide) (by decide), by rw [m3.1 9 (by decide), hc1.1 9 (by decide)]; exact h9, by rw [m3.1 8 (by decide), hc1.1 8 (by decide)]; exact h8, hnd⟩, by rw [m3.1 33 (by decide), k2.1 33 (by decide), va_up_same], hc3⟩)
set_option maxRecDepth 100000 in
set_option maxHeartbeats 8000000 in
theorem m_setSeparator (ht1 : tys[1]? = some (cI, .int)) (hW : mW I M sep rnum w) (z : Int32) : ct D tys z0 A (picM D cI cZ md ad A) l yX12_setSeparator wsX12_setSeparator (rmL 1 22) [.ref md, .int z] (I, M) (qI (picM D cI cZ md ad A) A (fun q x => if isCd z = true then ∃ I' M', x = (I', M') ∧ q = nI (nfd (sgn z) w.1) ∧ mW I' M' (sgn z) rnum w ∧ I' 33 = 0 ∧ mch [0, 3, 33] [4, 5] I M I' M' else x = (va_up I 33 1, M))) := by
  obtain ⟨hR, hC, hrs, hls, h9, h8, hnd⟩ := hW
  refine ct_of RX12 (by decide +kernel) rfl rfl (Nat.le_of_ble_eq_true rfl) ?_
  intro p e s m below meth c C hr hm
  refine v_lv (lv' := [(0, _), (1, _)]) rfl ?_
  refine v_aload_n C dX12_setSeparator_0 (j := 0) rfl rfl ?_
  refine v_iload_n C dX12_setSeparator_1 (j := 1) rfl rfl ?_
  refine v_iconst C dX12_setSeparator_2 (v := 0) (by decide) ?_
  refine v_bipush C dX12_setSeparator_3 (v := 37) (by decide) ?_
  refine v_ci (v_runS C (m_isIn z 0 37) (va_cwS 3 C.1.2.2.2.2 gX12_setSeparator_X12_isIn rfl rfl rfl (by decide +kernel) ⟨Nat.le_of_ble_eq_true rfl, Nat.le_of_ble_eq_true rfl⟩) rfl dX12_setSeparator_5 (rest := [_]) (Nat.le_of_ble_eq_true rfl) rfl ⟨(by first | exact Nat.le_of_ble_eq_true rfl | (dsimp only; omega)), (by first | exact Nat.le_of_ble_eq_true rfl | (dsimp only; omega))⟩) (fun q x' hx' => ?_)
  obtain ⟨rfl, rfl⟩ := hx'
  refine v_if_eq C 15 dX12_setSeparator_8 (by decide) (fun c1 => ?_) (fun c1 => ?_)
  · skip
    have hz : isCd z = false := bI_0 c1
    refine v_iconst C dX12_setSeparator_15 (v := 1) (by decide) ?_
    refine v_ci (v_runV C (m_fails 1) (cwV 1 C.1.2.2.2.2 gX12_setSeparator_X12_fails rfl rfl rfl (by decide +kernel) ⟨Nat.le_of_ble_eq_true rfl, Nat.le_of_ble_eq_true rfl⟩) rfl rfl (M_gC) dX12_setSeparator_16 (rest := []) (Nat.le_of_ble_eq_true rfl) rfl ⟨(by first | exact Nat.le_of_ble_eq_true rfl | (dsimp only; omega)), (by first | exact Nat.le_of_ble_eq_true rfl | (dsimp only; omega))⟩) (fun q x' hx' => ?_)
    obtain ⟨rfl, rfl⟩ := hx'
    refine v_if_eq C 24 dX12_setSeparator_19 (by decide) (fun c2 => absurd c2 (by intro; exact absurd c2 (by decide))) (fun c2 => ?_)
    refine v_iconst C dX12_setSeparator_22 (v := 0) (by decide) ?_
    exact v_ireturn C dX12_setSeparator_23 hr (rfl) (Nat.le_of_ble_eq_true rfl) (Nat.le_of_ble_eq_true rfl) (by rw [if_neg (by rw [hz]; decide)])
  · skip
    have hz : isCd z = true := bI_1 c1
    refine v_iconst C dX12_setSeparator_11 (v := 0) (by decide) ?_
    refine v_goto C 16 dX12_setSeparator_12 (by decide) ?_
    refine v_ci (v_runV C (m_fails 0) (cwV 1 C.1.2.2.2.2 gX12_setSeparator_X12_fails rfl rfl rfl (by decide +kernel) ⟨Nat.le_of_ble_eq_true rfl, Nat.le_of_ble_eq_true rfl⟩) rfl rfl (M_gC) dX12_setSeparator_16 (rest := []) (Nat.le_of_ble_eq_true rfl) rfl ⟨(by first | exact Nat.le_of_ble_eq_true rfl | (dsimp only; omega)), (by first | exact Nat.le_of_ble_eq_true rfl | (dsimp only; omega))⟩) (fun q x' hx' => ?_)
    obtain ⟨rfl, rfl⟩ := hx'
    refine v_if_eq C 24 dX12_setSeparator_19 (by decide) (fun c2 => ?_) (fun c2 => absurd c2 (by intro h; exact h (by decide)))
    refine v_aload_n C dX12_setSeparator_24 (j := 0) rfl rfl ?_
    refine v_iload_n C dX12_setSeparator_25 (j := 1) rfl rfl ?_
    refine v_ci (v_runS C (m_letter hz) (va_cwS 1 C.1.2.2.2.2 gX12_setSeparator_X12_letter rfl rfl rfl (by decide +kernel) ⟨Nat.le_of_ble_eq_true rfl, Nat.le_of_ble_eq_true rfl⟩) rfl dX12_setSeparator_26 (rest := [_]) (Nat.le_of_ble_eq_true rfl) rfl ⟨(by first | exact Nat.le_of_ble_eq_true rfl | (dsimp only; omega)), (by first | exact Nat.le_of_ble_eq_true rfl | (dsimp only; omega))⟩) (fun q x' hx' => ?_)
    obtain ⟨rfl, rfl⟩ := hx'
    refine v_put C (T := TX12) (ci := 12) (j := 0) (ty := .int) dX12_setSeparator_29 wiX12_setSeparator_X12 tyX12 tyX12_ok nmX12 rfl (by decide) wfX12_setSeparator_7 (fun _ h => h) rfl rfl (rfl) (rfl) (M_put rfl (by decide) _) ?_
    have hc1 : mch [0, 33] [] I M (va_up (va_up I 33 0) 0 (sgn z)) M := (mch_I (by decide) _).tr (mch_I (by decide) _)
    refine v_aload_n C dX12_setSeparator_32 (j := 0) rfl rfl ?_
    refine v_cv (v_runV C (m_cuts (sep := sgn z) ht1 (hR.ch hc1 (by decide) (by decide)) (va_up_same _ _ _)) (cwV 0 C.1.2.2.2.2 gX12_setSeparator_X12_cuts rfl rfl rfl (by decide +kernel) ⟨Nat.le_of_ble_eq_true rfl, Nat.le_of_ble_eq_true rfl⟩) rfl rfl (M_gC) dX12_setSeparator_33 (rest := []) (Nat.le_of_ble_eq_true rfl) rfl ⟨(by first | exact Nat.le_of_ble_eq_true rfl | (dsimp only; omega)), (by first | exact Nat.le_of_ble_eq_true rfl | (dsimp only; omega))⟩) (fun x' hx' => ?_)
    obtain ⟨I2, M2, rfl, k1, k2, k3⟩ := hx'
    have hc3 : mch [0, 3, 33] [4, 5] I M I2 M2 := (hc1.mo (by decide) (by decide)).tr ⟨fun j hj => k2 j (fun z => hj (by rw [z]; decide)), fun j hj => k3 j (fun z => hj (by rw [z]; decide)) (fun z => hj (by rw [z]; decide))⟩
    refine v_aload_n C dX12_setSeparator_36 (j := 0) rfl rfl ?_
    refine v_get C (T := TX12) (ci := 12) (j := 3) dX12_setSeparator_37 wiX12_setSeparator_X12 rfl (by decide) wfX12_setSeparator_88 (fun _ h => h) (M_int rfl (by decide)) ?_
    exact v_ireturn C dX12_setSeparator_40 hr (rfl) (Nat.le_of_ble_eq_true rfl) (Nat.le_of_ble_eq_true rfl) (by rw [if_pos hz]; exact ⟨I2, M2, rfl, k1.2.1, ⟨hR.ch hc3 (by decide) (by decide), k1, hrs.ch hc3 (by decide) (by decide) (by decide) (by decide), hls.ch hc3 (by decide) (by decide) (by decide), by rw [hc3.1 9 (by decide)]; exact h9, by rw [hc3.1 8 (by decide)]; exact h8, hnd⟩, by rw [k2 33 (by decide), va_up_other _ _ _ (by decide), va_up_same], hc3⟩)
set_option maxRecDepth 100000 in
set_option maxHeartbeats 8000000 in
theorem m_type (ht1 : tys[1]? = some (cI, .int)) (hT : mTx 7 6 I M typ) (z : Int32) : ct D tys z0 A (picM D cI cZ md ad A) l yX12_type wsX12_type (rmL 1 22) [.ref md, .int z] (I, M) (qI (picM D cI cZ md ad A) A (fun q x => if isCd z = true then (if typ.length < 60 then ∃ I' M', x = (I', M') ∧ q = nI (typ.length + 1) ∧ mTx 7 6 I' M' (typ ++ [sgn z]) ∧ I' 33 = 0 ∧ mch [7, 33] [6] I M I' M' else x = (va_up I 33 2, M)) else x = (va_up I 33 1, M))) := by
  have h60 := hT.2.1
  refine ct_of RX12 (by decide +kernel) rfl rfl (Nat.le_of_ble_eq_true rfl) ?_
  intro p e s m below meth c C hr hm
  refine v_lv (lv' := [(0, _), (1, _)]) rfl ?_
  refine v_aload_n C dX12_type_0 (j := 0) rfl rfl ?_
  refine v_iload_n C dX12_type_1 (j := 1) rfl rfl ?_
  refine v_iconst C dX12_type_2 (v := 0) (by decide) ?_
  refine v_bipush C dX12_type_3 (v := 37) (by decide) ?_
  refine v_ci (v_runS C (m_isIn z 0 37) (va_cwS 3 C.1.2.2.2.2 gX12_type_X12_isIn rfl rfl rfl (by decide +kernel) ⟨Nat.le_of_ble_eq_true rfl, Nat.le_of_ble_eq_true rfl⟩) rfl dX12_type_5 (rest := [_]) (Nat.le_of_ble_eq_true rfl) rfl ⟨(by first | exact Nat.le_of_ble_eq_true rfl | (dsimp only; omega)), (by first | exact Nat.le_of_ble_eq_true rfl | (dsimp only; omega))⟩) (fun q x' hx' => ?_)
  obtain ⟨rfl, rfl⟩ := hx'
  refine v_if_ne C 15 dX12_type_8 (by decide) (fun c1 => ?_) (fun c1 => ?_)
  · skip
    have hz : isCd z = true := bI_1 c1
    refine v_aload_n C dX12_type_15 (j := 0) rfl rfl ?_
    refine v_get C (T := TX12) (ci := 12) (j := 7) dX12_type_16 wiX12_type_X12 rfl (by decide) wfX12_type_183 (fun _ h => h) (M_int rfl (by decide)) ?_
    rw [hT.1]
    refine v_bipush C dX12_type_19 (v := 60) (by decide) ?_
    refine v_icmp_ne C 28 dX12_type_21 (by decide) (fun c3 => ?_) (fun c3 => ?_)
    · skip
      have c4 : typ.length < 60 := by
          have : typ.length ≠ 60 := fun y => c3 (by rw [y]; rfl)
          omega
      refine v_iconst C dX12_type_28 (v := 0) (by decide) ?_
      refine v_ci (v_runV C (m_fails 0) (cwV 1 C.1.2.2.2.2 gX12_type_X12_fails rfl rfl rfl (by decide +kernel) ⟨Nat.le_of_ble_eq_true rfl, Nat.le_of_ble_eq_true rfl⟩) rfl rfl (M_gC) dX12_type_29 (rest := []) (Nat.le_of_ble_eq_true rfl) rfl ⟨(by first | exact Nat.le_of_ble_eq_true rfl | (dsimp only; omega)), (by first | exact Nat.le_of_ble_eq_true rfl | (dsimp only; omega))⟩) (fun q x' hx' => ?_)
      obtain ⟨rfl, rfl⟩ := hx'
      refine v_if_eq C 37 dX12_type_32 (by decide) (fun c2 => ?_) (fun c2 => absurd c2 (by intro h; exact h (by decide)))
      refine v_aload_n C dX12_type_37 (j := 0) rfl rfl ?_
      refine v_get C (T := TX12) (ci := 12) (j := 6) dX12_type_38 wiX12_type_X12 rfl (by decide) wfX12_type_23 (fun _ h => h) (M_ref rfl (by decide)) ?_
      refine v_aload_n C dX12_type_41 (j := 0) rfl rfl ?_
      refine v_get C (T := TX12) (ci := 12) (j := 7) dX12_type_42 wiX12_type_X12 rfl (by decide) wfX12_type_183 (fun _ h => h) (M_int rfl (by decide)) ?_
      rw [show va_up I 33 0 7 = nI typ.length from by rw [va_up_other _ _ _ (by decide)]; exact hT.1]
      refine v_iload_n C dX12_type_45 (j := 1) rfl rfl ?_
      refine v_ci (v_runS C (m_letter hz) (va_cwS 1 C.1.2.2.2.2 gX12_type_X12_letter rfl rfl rfl (by decide +kernel) ⟨Nat.le_of_ble_eq_true rfl, Nat.le_of_ble_eq_true rfl⟩) rfl dX12_type_46 (rest := [_, _]) (Nat.le_of_ble_eq_true rfl) rfl ⟨(by first | exact Nat.le_of_ble_eq_true rfl | (dsimp only; omega)), (by first | exact Nat.le_of_ble_eq_true rfl | (dsimp only; omega))⟩) (fun q x' hx' => ?_)
      obtain ⟨rfl, rfl⟩ := hx'
      refine v_iast C dX12_type_49 1 ht1 (vp_in_nI (by show typ.length < 60; omega) (by decide)) (M_set (j := 6) rfl _) ?_
      rw [nI_clamp (by omega)]
      refine v_aload_n C dX12_type_50 (j := 0) rfl rfl ?_
      refine v_dup C dX12_type_51 rfl ?_
      refine v_get C (T := TX12) (ci := 12) (j := 7) dX12_type_52 wiX12_type_X12 rfl (by decide) wfX12_type_183 (fun _ h => h) (M_int rfl (by decide)) ?_
      rw [show va_up I 33 0 7 = nI typ.length from by rw [va_up_other _ _ _ (by decide)]; exact hT.1]
      refine v_iconst C dX12_type_55 (v := 1) (by decide) ?_
      refine v_iadd C dX12_type_56 ?_
      rw [nI_1]
      refine v_put C (T := TX12) (ci := 12) (j := 7) (ty := .int) dX12_type_57 wiX12_type_X12 tyX12 tyX12_ok nmX12 rfl (by decide) wfX12_type_183 (fun _ h => h) rfl rfl (rfl) (rfl) (M_put rfl (by decide) _) ?_
      refine v_aload_n C dX12_type_60 (j := 0) rfl rfl ?_
      refine v_get C (T := TX12) (ci := 12) (j := 7) dX12_type_61 wiX12_type_X12 rfl (by decide) wfX12_type_183 (fun _ h => h) (M_int rfl (by decide)) ?_
      have hm : mTx 7 6 (va_up (va_up I 33 0) 7 (nI (typ.length + 1))) (va_up M 6 (upd (M 6) typ.length (sgn z))) (typ ++ [sgn z]) := ⟨by rw [va_up_same]; simp, by simp; omega, fun k hk => by
          rw [va_up_same]
          unfold upd
          simp only [List.length_append, List.length_singleton] at hk
          by_cases hku : k = typ.length
          · rw [if_pos hku, hku]; simp [List.getD_eq_getElem?_getD]
          · rw [if_neg hku, hT.2.2 k (by omega)]; simp only [List.getD_eq_getElem?_getD]; rw [List.getElem?_append_left (by omega)]⟩
      exact v_ireturn C dX12_type_64 hr (rfl) (Nat.le_of_ble_eq_true rfl) (Nat.le_of_ble_eq_true rfl) (by rw [if_pos hz, if_pos c4]; exact ⟨_, _, rfl, va_up_same _ _ _, hm, by rw [va_up_other _ _ _ (by decide), va_up_same], (mch_I (by decide) _).tr ((mch_M (by decide) _).tr (mch_I (by decide) _))⟩)
    · skip
      have c4 : typ.length = 60 := by have := congrArg Int32.toNatClampNeg c3; rw [nI_clamp (by omega)] at this; exact this
      refine v_iconst C dX12_type_24 (v := 2) (by decide) ?_
      refine v_goto C 29 dX12_type_25 (by decide) ?_
      refine v_ci (v_runV C (m_fails 2) (cwV 1 C.1.2.2.2.2 gX12_type_X12_fails rfl rfl rfl (by decide +kernel) ⟨Nat.le_of_ble_eq_true rfl, Nat.le_of_ble_eq_true rfl⟩) rfl rfl (M_gC) dX12_type_29 (rest := []) (Nat.le_of_ble_eq_true rfl) rfl ⟨(by first | exact Nat.le_of_ble_eq_true rfl | (dsimp only; omega)), (by first | exact Nat.le_of_ble_eq_true rfl | (dsimp only; omega))⟩) (fun q x' hx' => ?_)
      obtain ⟨rfl, rfl⟩ := hx'
      refine v_if_eq C 37 dX12_type_32 (by decide) (fun c2 => absurd c2 (by intro; exact absurd c2 (by decide))) (fun c2 => ?_)
      refine v_iconst C dX12_type_35 (v := 0) (by decide) ?_
      exact v_ireturn C dX12_type_36 hr (rfl) (Nat.le_of_ble_eq_true rfl) (Nat.le_of_ble_eq_true rfl) (by rw [if_pos hz, if_neg (by omega)])
  · skip
    have hz : isCd z = false := bI_0 c1
    refine v_iconst C dX12_type_11 (v := 1) (by decide) ?_
    refine v_goto C 29 dX12_type_12 (by decide) ?_
    refine v_ci (v_runV C (m_fails 1) (cwV 1 C.1.2.2.2.2 gX12_type_X12_fails rfl rfl rfl (by decide +kernel) ⟨Nat.le_of_ble_eq_true rfl, Nat.le_of_ble_eq_true rfl⟩) rfl rfl (M_gC) dX12_type_29 (rest := []) (Nat.le_of_ble_eq_true rfl) rfl ⟨(by first | exact Nat.le_of_ble_eq_true rfl | (dsimp only; omega)), (by first | exact Nat.le_of_ble_eq_true rfl | (dsimp only; omega))⟩) (fun q x' hx' => ?_)
    obtain ⟨rfl, rfl⟩ := hx'
    refine v_if_eq C 37 dX12_type_32 (by decide) (fun c2 => absurd c2 (by intro; exact absurd c2 (by decide))) (fun c2 => ?_)
    refine v_iconst C dX12_type_35 (v := 0) (by decide) ?_
    exact v_ireturn C dX12_type_36 hr (rfl) (Nat.le_of_ble_eq_true rfl) (Nat.le_of_ble_eq_true rfl) (by rw [if_neg (by rw [hz]; decide)])
theorem isIn_n {z : Int32} {n : Nat} (hn : n < 2 ^ 31) : (isInB z 0 (nI n - 1) = true) ↔ (0 ≤ z ∧ z < nI n) := by
  unfold isInB
  rw [Bool.and_eq_true, decide_eq_true_eq, decide_eq_true_eq]
  cases n with
  | zero =>
    rw [show nI 0 - 1 = -1 from rfl, show nI 0 = 0 from rfl]
    constructor
    · rintro ⟨a, b⟩; exact absurd (Int32.le_trans a b) (by decide)
    · rintro ⟨a, b⟩; exact absurd b (Int32.not_lt.mpr a)
  | succ m =>
    rw [nI_pred]
    constructor
    · rintro ⟨a, b⟩
      obtain ⟨k, hk, rfl⟩ := nI_of (Int32.not_lt.mpr a)
      exact ⟨a, (nI_ltI hk hn).mpr (by have := (nI_leI hk (by omega)).mp b; omega)⟩
    · rintro ⟨a, b⟩
      obtain ⟨k, hk, rfl⟩ := nI_of (Int32.not_lt.mpr a)
      exact ⟨a, (nI_leI hk (by omega)).mpr (by have := (nI_ltI hk hn).mp b; omega)⟩
set_option maxRecDepth 100000 in
set_option maxHeartbeats 8000000 in
theorem m_row (ht1 : tys[1]? = some (cI, .int)) (hW : mW I M sep rnum w) (z : Int32) : ct D tys z0 A (picM D cI cZ md ad A) l yX12_row wsX12_row (rmL 1 22) [.ref md, .int z] (I, M) (qI (picM D cI cZ md ad A) A (fun q x => if 0 ≤ z ∧ z < nI w.2.1.length then x = (va_up I 33 0, M) ∧ q = (w.2.1.getD z.toNatClampNeg ([], 0)).2 else x = (va_up I 33 1, M))) := by
  have h20 := hW.2.2.1.2.2
  have h21 := hW.2.2.1.1.1
  rw [List.length_map] at h21
  have hin := isIn_n (z := z) (n := w.2.1.length) (by omega)
  refine ct_of RX12 (by decide +kernel) rfl rfl (Nat.le_of_ble_eq_true rfl) ?_
  intro p e s m below meth c C hr hm
  refine v_lv (lv' := [(0, _), (1, _)]) rfl ?_
  refine v_aload_n C dX12_row_0 (j := 0) rfl rfl ?_
  refine v_iload_n C dX12_row_1 (j := 1) rfl rfl ?_
  refine v_iconst C dX12_row_2 (v := 0) (by decide) ?_
  refine v_aload_n C dX12_row_3 (j := 0) rfl rfl ?_
  refine v_get C (T := TX12) (ci := 12) (j := 21) dX12_row_4 wiX12_row_X12 rfl (by decide) wfX12_row_193 (fun _ h => h) (M_int rfl (by decide)) ?_
  rw [h21]
  refine v_iconst C dX12_row_7 (v := 1) (by decide) ?_
  refine v_isub C dX12_row_8 ?_
  refine v_ci (v_runS C (m_isIn z 0 (nI w.2.1.length - 1)) (va_cwS 3 C.1.2.2.2.2 gX12_row_X12_isIn rfl rfl rfl (by decide +kernel) ⟨Nat.le_of_ble_eq_true rfl, Nat.le_of_ble_eq_true rfl⟩) rfl dX12_row_9 (rest := [_]) (Nat.le_of_ble_eq_true rfl) rfl ⟨(by first | exact Nat.le_of_ble_eq_true rfl | (dsimp only; omega)), (by first | exact Nat.le_of_ble_eq_true rfl | (dsimp only; omega))⟩) (fun q x' hx' => ?_)
  obtain ⟨rfl, rfl⟩ := hx'
  refine v_if_eq C 19 dX12_row_12 (by decide) (fun c1 => ?_) (fun c1 => ?_)
  · skip
    have hz : ¬ (0 ≤ z ∧ z < nI w.2.1.length) := fun h => by have := hin.mpr h; rw [bI_0 c1] at this; cases this
    refine v_iconst C dX12_row_19 (v := 1) (by decide) ?_
    refine v_ci (v_runV C (m_fails 1) (cwV 1 C.1.2.2.2.2 gX12_row_X12_fails rfl rfl rfl (by decide +kernel) ⟨Nat.le_of_ble_eq_true rfl, Nat.le_of_ble_eq_true rfl⟩) rfl rfl (M_gC) dX12_row_20 (rest := []) (Nat.le_of_ble_eq_true rfl) rfl ⟨(by first | exact Nat.le_of_ble_eq_true rfl | (dsimp only; omega)), (by first | exact Nat.le_of_ble_eq_true rfl | (dsimp only; omega))⟩) (fun q x' hx' => ?_)
    obtain ⟨rfl, rfl⟩ := hx'
    refine v_if_eq C 30 dX12_row_23 (by decide) (fun c2 => absurd c2 (by intro; exact absurd c2 (by decide))) (fun c2 => ?_)
    refine v_iconst C dX12_row_26 (v := 0) (by decide) ?_
    refine v_goto C 36 dX12_row_27 (by decide) ?_
    exact v_ireturn C dX12_row_36 hr (rfl) (Nat.le_of_ble_eq_true rfl) (Nat.le_of_ble_eq_true rfl) (by rw [if_neg hz])
  · skip
    have hz := hin.mp (bI_1 c1)
    obtain ⟨k, hk, rfl⟩ := nI_of (Int32.not_lt.mpr hz.1)
    have hkl : k < w.2.1.length := (nI_ltI hk (by omega)).mp hz.2
    refine v_iconst C dX12_row_15 (v := 0) (by decide) ?_
    refine v_goto C 20 dX12_row_16 (by decide) ?_
    refine v_ci (v_runV C (m_fails 0) (cwV 1 C.1.2.2.2.2 gX12_row_X12_fails rfl rfl rfl (by decide +kernel) ⟨Nat.le_of_ble_eq_true rfl, Nat.le_of_ble_eq_true rfl⟩) rfl rfl (M_gC) dX12_row_20 (rest := []) (Nat.le_of_ble_eq_true rfl) rfl ⟨(by first | exact Nat.le_of_ble_eq_true rfl | (dsimp only; omega)), (by first | exact Nat.le_of_ble_eq_true rfl | (dsimp only; omega))⟩) (fun q x' hx' => ?_)
    obtain ⟨rfl, rfl⟩ := hx'
    refine v_if_eq C 30 dX12_row_23 (by decide) (fun c2 => ?_) (fun c2 => absurd c2 (by intro h; exact h (by decide)))
    refine v_aload_n C dX12_row_30 (j := 0) rfl rfl ?_
    refine v_get C (T := TX12) (ci := 12) (j := 24) dX12_row_31 wiX12_row_X12 rfl (by decide) wfX12_row_63 (fun _ h => h) (M_ref rfl (by decide)) ?_
    refine v_iload_n C dX12_row_34 (j := 1) rfl rfl ?_
    refine v_iald C dX12_row_35 1 ht1 (M_arr (j := 24) rfl) (vp_in_nI (by show k < 20; omega) (by decide)) ?_
    refine v_int (b := (w.2.1.getD k ([], 0)).2) (by rw [nI_clamp hk]; exact hW.2.2.1.2.1 k hkl) ?_
    exact v_ireturn C dX12_row_36 hr (rfl) (Nat.le_of_ble_eq_true rfl) (Nat.le_of_ble_eq_true rfl) (by rw [if_pos hz, nI_clamp hk]; exact ⟨rfl, rfl⟩)
end MQ
