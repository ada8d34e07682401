/-! ===== the reference: its public methods ===== -/
theorem wfX12_fields_81 : Cond.fieldLink RX12 81 "FieldScribeModel" (TX12 33).2.1 (TX12 33).2.2.1 ∈ wsX12_fields := by decide +kernel
theorem wiX12_fields_X12 : ∀ w ∈ u_ws RX12 TX12 34, w ∈ wsX12_fields := by decide +kernel
theorem wfX12_fields_88 : Cond.fieldLink RX12 88 "FieldScribeModel" (TX12 3).2.1 (TX12 3).2.2.1 ∈ wsX12_fields := by decide +kernel
theorem wfX12_rows_81 : Cond.fieldLink RX12 81 "FieldScribeModel" (TX12 33).2.1 (TX12 33).2.2.1 ∈ wsX12_rows := by decide +kernel
theorem wiX12_rows_X12 : ∀ w ∈ u_ws RX12 TX12 34, w ∈ wsX12_rows := by decide +kernel
theorem wfX12_rows_193 : Cond.fieldLink RX12 193 "FieldScribeModel" (TX12 21).2.1 (TX12 21).2.2.1 ∈ wsX12_rows := by decide +kernel
theorem wfX12_lines_81 : Cond.fieldLink RX12 81 "FieldScribeModel" (TX12 33).2.1 (TX12 33).2.2.1 ∈ wsX12_lines := by decide +kernel
theorem wiX12_lines_X12 : ∀ w ∈ u_ws RX12 TX12 34, w ∈ wsX12_lines := by decide +kernel
theorem wfX12_lines_199 : Cond.fieldLink RX12 199 "FieldScribeModel" (TX12 25).2.1 (TX12 25).2.2.1 ∈ wsX12_lines := by decide +kernel
theorem wfX12_faults_81 : Cond.fieldLink RX12 81 "FieldScribeModel" (TX12 33).2.1 (TX12 33).2.2.1 ∈ wsX12_faults := by decide +kernel
theorem wiX12_faults_X12 : ∀ w ∈ u_ws RX12 TX12 34, w ∈ wsX12_faults := by decide +kernel
theorem wfX12_faults_165 : Cond.fieldLink RX12 165 "FieldScribeModel" (TX12 9).2.1 (TX12 9).2.2.1 ∈ wsX12_faults := by decide +kernel
theorem wfX12_useStack_81 : Cond.fieldLink RX12 81 "FieldScribeModel" (TX12 33).2.1 (TX12 33).2.2.1 ∈ wsX12_useStack := by decide +kernel
theorem wiX12_useStack_X12 : ∀ w ∈ u_ws RX12 TX12 34, w ∈ wsX12_useStack := by decide +kernel
section MQ
variable {l : Launch} {D : va_G} {tys : List (ClassId × FieldType)} {z0 : Nat} {A : Nat → Prop} {cI cZ : ClassId} {md : Nat} {ad : Nat → Nat} {I : Nat → Int32} {M : Nat → Nat → Int32} {sep rnum : Int32} {w : WS} {typ : List Int32} {rls : List Rl}
set_option maxRecDepth 100000 in
set_option maxHeartbeats 8000000 in
theorem m_fields : ct D tys z0 A (picM D cI cZ md ad A) l yX12_fields wsX12_fields rm0 [.ref md] (I, M) (qI (picM D cI cZ md ad A) A (fun q x => x = (va_up I 33 0, M) ∧ q = I 3)) := by
  refine ct_of RX12 (by decide +kernel) rfl rfl (Nat.le_of_ble_eq_true rfl) ?_
  intro p e s m below meth c C hr hm
  refine v_lv (lv' := [(0, _)]) rfl ?_
  refine v_aload_n C dX12_fields_0 (j := 0) rfl rfl ?_
  refine v_iconst C dX12_fields_1 (v := 0) (by decide) ?_
  refine v_put C (T := TX12) (ci := 12) (j := 33) (ty := .int) dX12_fields_2 wiX12_fields_X12 tyX12 tyX12_ok nmX12 rfl (by decide) wfX12_fields_81 (fun _ h => h) rfl rfl (rfl) (rfl) (M_put rfl (by decide) _) ?_
  refine v_aload_n C dX12_fields_5 (j := 0) rfl rfl ?_
  refine v_get C (T := TX12) (ci := 12) (j := 3) dX12_fields_6 wiX12_fields_X12 rfl (by decide) wfX12_fields_88 (fun _ h => h) (M_int rfl (by decide)) ?_
  exact v_ireturn C dX12_fields_9 hr (rfl) (Nat.le_of_ble_eq_true rfl) (Nat.le_of_ble_eq_true rfl) (⟨rfl, va_up_other _ _ _ (by decide)⟩)
set_option maxRecDepth 100000 in
set_option maxHeartbeats 8000000 in
theorem m_rows : ct D tys z0 A (picM D cI cZ md ad A) l yX12_rows wsX12_rows rm0 [.ref md] (I, M) (qI (picM D cI cZ md ad A) A (fun q x => x = (va_up I 33 0, M) ∧ q = I 21)) := by
  refine ct_of RX12 (by decide +kernel) rfl rfl (Nat.le_of_ble_eq_true rfl) ?_
  intro p e s m below meth c C hr hm
  refine v_lv (lv' := [(0, _)]) rfl ?_
  refine v_aload_n C dX12_rows_0 (j := 0) rfl rfl ?_
  refine v_iconst C dX12_rows_1 (v := 0) (by decide) ?_
  refine v_put C (T := TX12) (ci := 12) (j := 33) (ty := .int) dX12_rows_2 wiX12_rows_X12 tyX12 tyX12_ok nmX12 rfl (by decide) wfX12_rows_81 (fun _ h => h) rfl rfl (rfl) (rfl) (M_put rfl (by decide) _) ?_
  refine v_aload_n C dX12_rows_5 (j := 0) rfl rfl ?_
  refine v_get C (T := TX12) (ci := 12) (j := 21) dX12_rows_6 wiX12_rows_X12 rfl (by decide) wfX12_rows_193 (fun _ h => h) (M_int rfl (by decide)) ?_
  exact v_ireturn C dX12_rows_9 hr (rfl) (Nat.le_of_ble_eq_true rfl) (Nat.le_of_ble_eq_true rfl) (⟨rfl, va_up_other _ _ _ (by decide)⟩)
set_option maxRecDepth 100000 in
set_option maxHeartbeats 8000000 in
theorem m_lines : ct D tys z0 A (picM D cI cZ md ad A) l yX12_lines wsX12_lines rm0 [.ref md] (I, M) (qI (picM D cI cZ md ad A) A (fun q x => x = (va_up I 33 0, M) ∧ q = I 25)) := by
  refine ct_of RX12 (by decide +kernel) rfl rfl (Nat.le_of_ble_eq_true rfl) ?_
  intro p e s m below meth c C hr hm
  refine v_lv (lv' := [(0, _)]) rfl ?_
  refine v_aload_n C dX12_lines_0 (j := 0) rfl rfl ?_
  refine v_iconst C dX12_lines_1 (v := 0) (by decide) ?_
  refine v_put C (T := TX12) (ci := 12) (j := 33) (ty := .int) dX12_lines_2 wiX12_lines_X12 tyX12 tyX12_ok nmX12 rfl (by decide) wfX12_lines_81 (fun _ h => h) rfl rfl (rfl) (rfl) (M_put rfl (by decide) _) ?_
  refine v_aload_n C dX12_lines_5 (j := 0) rfl rfl ?_
  refine v_get C (T := TX12) (ci := 12) (j := 25) dX12_lines_6 wiX12_lines_X12 rfl (by decide) wfX12_lines_199 (fun _ h => h) (M_int rfl (by decide)) ?_
  exact v_ireturn C dX12_lines_9 hr (rfl) (Nat.le_of_ble_eq_true rfl) (Nat.le_of_ble_eq_true rfl) (⟨rfl, va_up_other _ _ _ (by decide)⟩)
set_option maxRecDepth 100000 in
set_option maxHeartbeats 8000000 in
theorem m_faults : ct D tys z0 A (picM D cI cZ md ad A) l yX12_faults wsX12_faults rm0 [.ref md] (I, M) (qI (picM D cI cZ md ad A) A (fun q x => x = (va_up I 33 0, M) ∧ q = I 9)) := by
  refine ct_of RX12 (by decide +kernel) rfl rfl (Nat.le_of_ble_eq_true rfl) ?_
  intro p e s m below meth c C hr hm
  refine v_lv (lv' := [(0, _)]) rfl ?_
  refine v_aload_n C dX12_faults_0 (j := 0) rfl rfl ?_
  refine v_iconst C dX12_faults_1 (v := 0) (by decide) ?_
  refine v_put C (T := TX12) (ci := 12) (j := 33) (ty := .int) dX12_faults_2 wiX12_faults_X12 tyX12 tyX12_ok nmX12 rfl (by decide) wfX12_faults_81 (fun _ h => h) rfl rfl (rfl) (rfl) (M_put rfl (by decide) _) ?_
  refine v_aload_n C dX12_faults_5 (j := 0) rfl rfl ?_
  refine v_get C (T := TX12) (ci := 12) (j := 9) dX12_faults_6 wiX12_faults_X12 rfl (by decide) wfX12_faults_165 (fun _ h => h) (M_int rfl (by decide)) ?_
  exact v_ireturn C dX12_faults_9 hr (rfl) (Nat.le_of_ble_eq_true rfl) (Nat.le_of_ble_eq_true rfl) (⟨rfl, va_up_other _ _ _ (by decide)⟩)
set_option maxRecDepth 100000 in
set_option maxHeartbeats 8000000 in
theorem m_useStack (b : Int32) : ct D tys z0 A (picM D cI cZ md ad A) l yX12_useStack wsX12_useStack rm0 [.ref md, .int b] (I, M) (qV (picM D cI cZ md ad A) A (fun x => x = (va_up I 33 0, M))) := by
  refine ct_of RX12 (by decide +kernel) rfl rfl (Nat.le_of_ble_eq_true rfl) ?_
  intro p e s m below meth c C hr hm
  refine v_lv (lv' := [(0, _), (1, _)]) rfl ?_
  refine v_aload_n C dX12_useStack_0 (j := 0) rfl rfl ?_
  refine v_iconst C dX12_useStack_1 (v := 0) (by decide) ?_
  refine v_put C (T := TX12) (ci := 12) (j := 33) (ty := .int) dX12_useStack_2 wiX12_useStack_X12 tyX12 tyX12_ok nmX12 rfl (by decide) wfX12_useStack_81 (fun _ h => h) rfl rfl (rfl) (rfl) (M_put rfl (by decide) _) ?_
  exact v_return C dX12_useStack_5 hr (Nat.le_of_ble_eq_true rfl) (Nat.le_of_ble_eq_true rfl) (rfl)
set_option maxRecDepth 100000 in
set_option maxHeartbeats 8000000 in
theorem m_number (ht1 : tys[1]? = some (cI, .int)) (hW : mW I M sep rnum w) (z : Int32) : ct D tys z0 A (picM D cI cZ md ad A) l yX12_number wsX12_number (rmL 4 92) [.ref md, .int z] (I, M) (qI (picM D cI cZ md ad A) A (fun q x => if isFd z = true then x = (va_up I 33 0, M) ∧ q = num (fld sep w.1 z.toNatClampNeg) else x = (va_up I 33 1, M))) := by
  refine ct_of RX12 (by decide +kernel) rfl rfl (Nat.le_of_ble_eq_true rfl) ?_
  intro p e s m below meth c C hr hm
  refine v_lv (lv' := [(0, _), (1, _)]) rfl ?_
  refine v_aload_n C dX12_number_0 (j := 0) rfl rfl ?_
  refine v_iload_n C dX12_number_1 (j := 1) rfl rfl ?_
  refine v_ci (v_runS C (m_isField z) (va_cwS 1 C.1.2.2.2.2 gX12_number_X12_isField rfl rfl rfl (by decide +kernel) ⟨Nat.le_of_ble_eq_true rfl, Nat.le_of_ble_eq_true rfl⟩) rfl dX12_number_2 (rest := [_]) (Nat.le_of_ble_eq_true rfl) rfl ⟨(by first | exact Nat.le_of_ble_eq_true rfl | (dsimp only; omega)), (by first | exact Nat.le_of_ble_eq_true rfl | (dsimp only; omega))⟩) (fun q x' hx' => ?_)
  obtain ⟨rfl, rfl⟩ := hx'
  refine v_if_eq C 12 dX12_number_5 (by decide) (fun c1 => ?_) (fun c1 => ?_)
  · skip
    have hz := bI_0 c1
    refine v_iconst C dX12_number_12 (v := 1) (by decide) ?_
    refine v_ci (v_runV C (m_fails 1) (cwV 1 C.1.2.2.2.2 gX12_number_X12_fails rfl rfl rfl (by decide +kernel) ⟨Nat.le_of_ble_eq_true rfl, Nat.le_of_ble_eq_true rfl⟩) rfl rfl (M_gC) dX12_number_13 (rest := []) (Nat.le_of_ble_eq_true rfl) rfl ⟨(by first | exact Nat.le_of_ble_eq_true rfl | (dsimp only; omega)), (by first | exact Nat.le_of_ble_eq_true rfl | (dsimp only; omega))⟩) (fun q x' hx' => ?_)
    obtain ⟨rfl, rfl⟩ := hx'
    refine v_if_eq C 23 dX12_number_16 (by decide) (fun c2 => absurd c2 (by intro; exact absurd c2 (by decide))) (fun c2 => ?_)
    refine v_iconst C dX12_number_19 (v := 0) (by decide) ?_
    refine v_goto C 28 dX12_number_20 (by decide) ?_
    exact v_ireturn C dX12_number_28 hr (rfl) (Nat.le_of_ble_eq_true rfl) (Nat.le_of_ble_eq_true rfl) (by rw [if_neg (by rw [hz]; decide)])
  · skip
    have hz := bI_1 c1
    obtain ⟨k, hk, rfl⟩ := isFd_nI hz
    refine v_iconst C dX12_number_8 (v := 0) (by decide) ?_
    refine v_goto C 13 dX12_number_9 (by decide) ?_
    refine v_ci (v_runV C (m_fails 0) (cwV 1 C.1.2.2.2.2 gX12_number_X12_fails rfl rfl rfl (by decide +kernel) ⟨Nat.le_of_ble_eq_true rfl, Nat.le_of_ble_eq_true rfl⟩) rfl rfl (M_gC) dX12_number_13 (rest := []) (Nat.le_of_ble_eq_true rfl) rfl ⟨(by first | exact Nat.le_of_ble_eq_true rfl | (dsimp only; omega)), (by first | exact Nat.le_of_ble_eq_true rfl | (dsimp only; omega))⟩) (fun q x' hx' => ?_)
    obtain ⟨rfl, rfl⟩ := hx'
    have hc : mch [33] [] I M (va_up I 33 0) M := mch_I (by decide) _
    have hR := hW.1.ch hc (by decide) (by decide)
    obtain ⟨b1, e1, hb1, he1, hs1⟩ := be hR (hW.2.1.ch hc (by decide) (by decide) (by decide) (by decide)) hk
    refine v_if_eq C 23 dX12_number_16 (by decide) (fun c2 => ?_) (fun c2 => absurd c2 (by intro h; exact h (by decide)))
    refine v_aload_n C dX12_number_23 (j := 0) rfl rfl ?_
    refine v_iload_n C dX12_number_24 (j := 1) rfl rfl ?_
    refine v_ci (v_runV C (m_numberOf ht1 hR hk hb1 he1 hs1) (cwV 1 C.1.2.2.2.2 gX12_number_X12_numberOf rfl rfl rfl (by decide +kernel) ⟨Nat.le_of_ble_eq_true rfl, Nat.le_of_ble_eq_true rfl⟩) rfl rfl (M_gC) dX12_number_25 (rest := []) (Nat.le_of_ble_eq_true rfl) rfl ⟨(by first | exact Nat.le_of_ble_eq_true rfl | (dsimp only; omega)), (by first | exact Nat.le_of_ble_eq_true rfl | (dsimp only; omega))⟩) (fun q x' hx' => ?_)
    obtain ⟨rfl, rfl⟩ := hx'
    exact v_ireturn C dX12_number_28 hr (rfl) (Nat.le_of_ble_eq_true rfl) (Nat.le_of_ble_eq_true rfl) (by rw [if_pos hz, nI_clamp (by omega)]; exact ⟨rfl, rfl⟩)
end MQ
