/-! ===== FieldScribe's own methods ===== -/
theorem wfX11_fields_19 : Cond.fieldLink RX11 19 "FieldScribe" (TX11 1).2.1 (TX11 1).2.2.1 ∈ wsX11_fields := by decide +kernel
theorem wiX11_fields_X11 : ∀ w ∈ u_ws RX11 TX11 9, w ∈ wsX11_fields := by decide +kernel
theorem wiX11_fields_X4 : ∀ w ∈ u_ws RX4 TX4 5, w ∈ wsX11_fields := by decide +kernel
theorem wfX11_rows_26 : Cond.fieldLink RX11 26 "FieldScribe" (TX11 2).2.1 (TX11 2).2.2.1 ∈ wsX11_rows := by decide +kernel
theorem wiX11_rows_X11 : ∀ w ∈ u_ws RX11 TX11 9, w ∈ wsX11_rows := by decide +kernel
theorem wiX11_rows_X9 : ∀ w ∈ u_ws RX9 TX9 2, w ∈ wsX11_rows := by decide +kernel
theorem wfX11_lines_33 : Cond.fieldLink RX11 33 "FieldScribe" (TX11 3).2.1 (TX11 3).2.2.1 ∈ wsX11_lines := by decide +kernel
theorem wiX11_lines_X11 : ∀ w ∈ u_ws RX11 TX11 9, w ∈ wsX11_lines := by decide +kernel
theorem wiX11_lines_X5 : ∀ w ∈ u_ws RX5 TX5 3, w ∈ wsX11_lines := by decide +kernel
theorem wfX11_faults_205 : Cond.fieldLink RX11 205 "FieldScribe" (TX11 8).2.1 (TX11 8).2.2.1 ∈ wsX11_faults := by decide +kernel
theorem wiX11_faults_X11 : ∀ w ∈ u_ws RX11 TX11 9, w ∈ wsX11_faults := by decide +kernel
theorem wfX11_useStack_121 : Cond.fieldLink RX11 121 "FieldScribe" (TX11 7).2.1 (TX11 7).2.2.1 ∈ wsX11_useStack := by decide +kernel
theorem wiX11_useStack_X11 : ∀ w ∈ u_ws RX11 TX11 9, w ∈ wsX11_useStack := by decide +kernel
theorem wfX11_number_19 : Cond.fieldLink RX11 19 "FieldScribe" (TX11 1).2.1 (TX11 1).2.2.1 ∈ wsX11_number := by decide +kernel
theorem wiX11_number_X11 : ∀ w ∈ u_ws RX11 TX11 9, w ∈ wsX11_number := by decide +kernel
theorem wfX11_character_19 : Cond.fieldLink RX11 19 "FieldScribe" (TX11 1).2.1 (TX11 1).2.2.1 ∈ wsX11_character := by decide +kernel
theorem wiX11_character_X11 : ∀ w ∈ u_ws RX11 TX11 9, w ∈ wsX11_character := by decide +kernel
theorem wfX11_row_26 : Cond.fieldLink RX11 26 "FieldScribe" (TX11 2).2.1 (TX11 2).2.2.1 ∈ wsX11_row := by decide +kernel
theorem wiX11_row_X11 : ∀ w ∈ u_ws RX11 TX11 9, w ∈ wsX11_row := by decide +kernel
theorem wiX11_row_X9 : ∀ w ∈ u_ws RX9 TX9 2, w ∈ wsX11_row := by decide +kernel
theorem wiX11_row_X6 : ∀ w ∈ u_ws RX6 TX6 2, w ∈ wsX11_row := by decide +kernel
theorem wfX11_key_26 : Cond.fieldLink RX11 26 "FieldScribe" (TX11 2).2.1 (TX11 2).2.2.1 ∈ wsX11_key := by decide +kernel
theorem wiX11_key_X11 : ∀ w ∈ u_ws RX11 TX11 9, w ∈ wsX11_key := by decide +kernel
theorem wiX11_key_X9 : ∀ w ∈ u_ws RX9 TX9 2, w ∈ wsX11_key := by decide +kernel
theorem wiX11_key_X6 : ∀ w ∈ u_ws RX6 TX6 2, w ∈ wsX11_key := by decide +kernel
theorem wfX11_line_33 : Cond.fieldLink RX11 33 "FieldScribe" (TX11 3).2.1 (TX11 3).2.2.1 ∈ wsX11_line := by decide +kernel
theorem wiX11_line_X11 : ∀ w ∈ u_ws RX11 TX11 9, w ∈ wsX11_line := by decide +kernel
theorem wiX11_line_X5 : ∀ w ∈ u_ws RX5 TX5 3, w ∈ wsX11_line := by decide +kernel
theorem wfX11_setField_51 : Cond.fieldLink RX11 51 "FieldScribe" (TX11 6).2.1 (TX11 6).2.2.1 ∈ wsX11_setField := by decide +kernel
theorem wiX11_setField_X11 : ∀ w ∈ u_ws RX11 TX11 9, w ∈ wsX11_setField := by decide +kernel
theorem wfX11_setField_19 : Cond.fieldLink RX11 19 "FieldScribe" (TX11 1).2.1 (TX11 1).2.2.1 ∈ wsX11_setField := by decide +kernel
theorem wiX11_setField_X4 : ∀ w ∈ u_ws RX4 TX4 5, w ∈ wsX11_setField := by decide +kernel
theorem wfX11_setSeparator_19 : Cond.fieldLink RX11 19 "FieldScribe" (TX11 1).2.1 (TX11 1).2.2.1 ∈ wsX11_setSeparator := by decide +kernel
theorem wiX11_setSeparator_X11 : ∀ w ∈ u_ws RX11 TX11 9, w ∈ wsX11_setSeparator := by decide +kernel
theorem wiX11_setSeparator_X4 : ∀ w ∈ u_ws RX4 TX4 5, w ∈ wsX11_setSeparator := by decide +kernel
theorem wfX11_type_47 : Cond.fieldLink RX11 47 "FieldScribe" (TX11 5).2.1 (TX11 5).2.2.1 ∈ wsX11_type := by decide +kernel
theorem wiX11_type_X11 : ∀ w ∈ u_ws RX11 TX11 9, w ∈ wsX11_type := by decide +kernel
theorem wiX11_type_X10 : ∀ w ∈ u_ws RX10 TX10 2, w ∈ wsX11_type := by decide +kernel
theorem wwX11_type_cl69 : Cond.classLink RX11 69 "java/lang/IllegalStateException" ∈ wsX11_type := by decide +kernel
theorem wwX11_type_in_ISE : Cond.initialized "java/lang/IllegalStateException" ∈ wsX11_type := by decide +kernel
theorem wgX11_type_ISE : ∀ w ∈ wgISE, w ∈ wsX11_type := by
  intro w h
  first | exact List.mem_cons_of_mem _ (List.mem_append_right _ h) | exact List.mem_cons_of_mem _ (List.mem_append_left _ (List.mem_append_right _ h)) | exact List.mem_cons_of_mem _ (List.mem_append_left _ (List.mem_append_left _ (List.mem_append_right _ h)))
theorem sgn_fit {z : Int32} (h : isCd z = true) : fits .char (.int (sgn z)) = true := by
  unfold isCd at h
  rw [Bool.and_eq_true] at h
  obtain ⟨k, hk, rfl⟩ := nI_of2 (M := 37) (n := 37) rfl (Int32.not_lt.mpr (of_decide_eq_true h.1)) (of_decide_eq_true h.2)
  have : ∀ k : Fin 38, fits .char (.int (sgn (nI k.val))) = true := by decide +kernel
  exact this ⟨k, by omega⟩
section FS
variable {l : Launch} {D : va_G} {tys : List (ClassId × FieldType)} {z0 : Nat} {A : Nat → Prop} {cC cT cR cI cO : ClassId} {f : Nat → Option va_E} {T : Nat → Option (List Int32)} {a na lab lf : Nat → Nat} {sep rnum : Int32} {typ : List Int32} {stk : Bool} {w : WS} {rls : List Rl}
theorem fldT (hW : wI f T cT cR a na lab sep rnum typ stk w) {k : Nat} (hk : k ≤ 12) : T (if k = 0 then a 3 else pcA a (k - 1)) = some (fld sep w.1 k) := by
  by_cases h0 : k = 0
  · rw [if_pos h0, h0]; exact hW.2.1.2.1
  · rw [if_neg h0, hW.2.1.2.2 (k - 1) (by omega), Nat.sub_add_cancel (by omega)]
theorem isFd_nI {z : Int32} (h : isFd z = true) : ∃ k, k ≤ 12 ∧ z = nI k := by
  unfold isFd at h
  rw [Bool.and_eq_true] at h
  obtain ⟨k, hk, rfl⟩ := nI_of2 (M := 12) (n := 12) rfl (Int32.not_lt.mpr (of_decide_eq_true h.1)) (of_decide_eq_true h.2)
  exact ⟨k, hk, rfl⟩
set_option maxRecDepth 100000 in
set_option maxHeartbeats 8000000 in
theorem k_fields (hW : wI f T cT cR a na lab sep rnum typ stk w) : ct D tys z0 A (picF D cC A) l yX11_fields wsX11_fields rm0 [.ref (a 0)] (f, T) (qI (picF D cC A) A (fun q x => x = (f, T) ∧ q = nI (nfd sep w.1))) := by
  obtain ⟨h1, ⟨h2, h2t⟩, ⟨ro, h3, h3a, h3d, h3t, h3l⟩, ⟨st, h4, h4a, h4t⟩, h5⟩ := hW
  refine ct_of RX11 (by decide +kernel) rfl rfl (Nat.le_of_ble_eq_true rfl) ?_
  intro p e s m below meth c C hr hm
  refine v_lv (lv' := [(0, _)]) rfl ?_
  refine v_aload_n C dX11_fields_0 (j := 0) rfl rfl ?_
  refine v_get C (T := TX11) (ci := 11) (j := 1) dX11_fields_1 wiX11_fields_X11 rfl (by decide) wfX11_fields_19 (fun _ h => h) (FF_get h1 rfl) ?_
  refine v_getN C (T := TX4) (ci := 4) (j := 3) dX11_fields_4 wiX11_fields_X4 rfl (by decide) (v_nw C 26 rfl) (fun _ h => h) (FF_get h2.1 rfl) ?_
  exact v_ireturn C dX11_fields_7 hr (rfl) (Nat.le_of_ble_eq_true rfl) (Nat.le_of_ble_eq_true rfl) (⟨rfl, rfl⟩)
set_option maxRecDepth 100000 in
set_option maxHeartbeats 8000000 in
theorem k_rows (hW : wI f T cT cR a na lab sep rnum typ stk w) : ct D tys z0 A (picF D cC A) l yX11_rows wsX11_rows rm0 [.ref (a 0)] (f, T) (qI (picF D cC A) A (fun q x => x = (f, T) ∧ q = nI w.2.1.length)) := by
  obtain ⟨h1, ⟨h2, h2t⟩, ⟨ro, h3, h3a, h3d, h3t, h3l⟩, ⟨st, h4, h4a, h4t⟩, h5⟩ := hW
  refine ct_of RX11 (by decide +kernel) rfl rfl (Nat.le_of_ble_eq_true rfl) ?_
  intro p e s m below meth c C hr hm
  refine v_lv (lv' := [(0, _)]) rfl ?_
  refine v_aload_n C dX11_rows_0 (j := 0) rfl rfl ?_
  refine v_get C (T := TX11) (ci := 11) (j := 2) dX11_rows_1 wiX11_rows_X11 rfl (by decide) wfX11_rows_26 (fun _ h => h) (FF_get h1 rfl) ?_
  refine v_getN C (T := TX9) (ci := 9) (j := 1) dX11_rows_4 wiX11_rows_X9 rfl (by decide) (v_nw C 29 rfl) (fun _ h => h) (FF_get h3 rfl) ?_
  exact v_ireturn C dX11_rows_7 hr (rfl) (Nat.le_of_ble_eq_true rfl) (Nat.le_of_ble_eq_true rfl) (⟨rfl, rfl⟩)
set_option maxRecDepth 100000 in
set_option maxHeartbeats 8000000 in
theorem k_lines (hW : wI f T cT cR a na lab sep rnum typ stk w) : ct D tys z0 A (picF D cC A) l yX11_lines wsX11_lines rm0 [.ref (a 0)] (f, T) (qI (picF D cC A) A (fun q x => x = (f, T) ∧ q = nI w.2.2.1.length)) := by
  obtain ⟨h1, ⟨h2, h2t⟩, ⟨ro, h3, h3a, h3d, h3t, h3l⟩, ⟨st, h4, h4a, h4t⟩, h5⟩ := hW
  refine ct_of RX11 (by decide +kernel) rfl rfl (Nat.le_of_ble_eq_true rfl) ?_
  intro p e s m below meth c C hr hm
  refine v_lv (lv' := [(0, _)]) rfl ?_
  refine v_aload_n C dX11_lines_0 (j := 0) rfl rfl ?_
  refine v_get C (T := TX11) (ci := 11) (j := 3) dX11_lines_1 wiX11_lines_X11 rfl (by decide) wfX11_lines_33 (fun _ h => h) (FF_get h1 rfl) ?_
  refine v_getN C (T := TX5) (ci := 5) (j := 2) dX11_lines_4 wiX11_lines_X5 rfl (by decide) (v_nw C 32 rfl) (fun _ h => h) (FF_get h4 rfl) ?_
  exact v_ireturn C dX11_lines_7 hr (rfl) (Nat.le_of_ble_eq_true rfl) (Nat.le_of_ble_eq_true rfl) (⟨rfl, rfl⟩)
set_option maxRecDepth 100000 in
set_option maxHeartbeats 8000000 in
theorem k_faults (hW : wI f T cT cR a na lab sep rnum typ stk w) : ct D tys z0 A (picF D cC A) l yX11_faults wsX11_faults rm0 [.ref (a 0)] (f, T) (qI (picF D cC A) A (fun q x => x = (f, T) ∧ q = w.2.2.2)) := by
  obtain ⟨h1, ⟨h2, h2t⟩, ⟨ro, h3, h3a, h3d, h3t, h3l⟩, ⟨st, h4, h4a, h4t⟩, h5⟩ := hW
  refine ct_of RX11 (by decide +kernel) rfl rfl (Nat.le_of_ble_eq_true rfl) ?_
  intro p e s m below meth c C hr hm
  refine v_lv (lv' := [(0, _)]) rfl ?_
  refine v_aload_n C dX11_faults_0 (j := 0) rfl rfl ?_
  refine v_get C (T := TX11) (ci := 11) (j := 8) dX11_faults_1 wiX11_faults_X11 rfl (by decide) wfX11_faults_205 (fun _ h => h) (FF_get h1 rfl) ?_
  exact v_ireturn C dX11_faults_4 hr (rfl) (Nat.le_of_ble_eq_true rfl) (Nat.le_of_ble_eq_true rfl) (⟨rfl, rfl⟩)
set_option maxRecDepth 100000 in
set_option maxHeartbeats 8000000 in
theorem k_useStack (hW : wI f T cT cR a na lab sep rnum typ stk w) (hL : labI a lab) (b : Bool) : ct D tys z0 A (picF D cC A) l yX11_useStack wsX11_useStack rm0 [.ref (a 0), .int (bI b)] (f, T) (qV (picF D cC A) A (fun x => ∃ f', x = (f', T) ∧ kpN [11] f f' ∧ wI f' T cT cR a na lab sep rnum typ b w)) := by
  have hW2 := hW
  obtain ⟨h1, h2, h3, h4, h5, h6, h7⟩ := hW2
  refine ct_of RX11 (by decide +kernel) rfl rfl (Nat.le_of_ble_eq_true rfl) ?_
  intro p e s m below meth c C hr hm
  refine v_lv (lv' := [(0, _), (1, _)]) rfl ?_
  refine v_aload_n C dX11_useStack_0 (j := 0) rfl rfl ?_
  refine v_iload_n C dX11_useStack_1 (j := 1) rfl rfl ?_
  refine v_put C (T := TX11) (ci := 11) (j := 7) (ty := .boolean) dX11_useStack_2 wiX11_useStack_X11 tyX11 tyX11_ok nmX11 rfl (by decide) wfX11_useStack_121 (fun _ h => h) rfl rfl (bI_nar _) ((by cases b <;> rfl)) (FF_put h1 (Nat.le_of_ble_eq_true rfl)) ?_
  have k : kpN [11] f (va_up f (a 0) (fsE a b w.2.2.2)) := kpN_up h1 (by simp [kdn]) _
  exact v_return C dX11_useStack_5 hr (Nat.le_of_ble_eq_true rfl) (Nat.le_of_ble_eq_true rfl) (⟨_, rfl, k, va_up_same _ _ _, h2.kp hL k (lpT.rf (ls := [])) (by decide) (by decide) (by decide) (by decide), h3.kp k (lpT.rf (ls := [])) (by decide) (by decide) (by decide) (by decide), h4.kp hL k (lpT.rf (ls := [])) (by decide) (by decide) (by decide), h5.kp (lab := lab) k (lpT.rf (ls := [])) (by decide) (by decide), h6, h7⟩)
set_option maxRecDepth 100000 in
set_option maxHeartbeats 8000000 in
theorem k_number (hl : l.stackTraces = false) (ht : tys[0]? = some (cC, .char)) (ht4 : tys[4]? = some (cT, .object RX10)) (hW : wI f T cT cR a na lab sep rnum typ stk w) (z : Int32) : cX D tys z0 A (picF D cC A) l yX11_number wsX11_number ({ frames := 7, cells := 1, slots := 6, locals := 112 } : Room) [.ref (a 0), .int z] (f, T) (qI (picF D cC A) A (fun q x => x = (f, T) ∧ isFd z = true ∧ q = num (fld sep w.1 z.toNatClampNeg))) (fun E x => E = xIOO ∧ x = (f, T) ∧ isFd z = false) := by
  have hW2 := hW
  obtain ⟨h1, ⟨h2, h2t⟩, -⟩ := hW2
  refine cX_of RX11 (by decide +kernel) rfl rfl (Nat.le_of_ble_eq_true rfl) ?_
  intro p e s m below meth c C hr hex
  refine v_lv (lv' := [(0, _), (1, _)]) rfl ?_
  refine v_iload_n C dX11_number_0 (j := 1) rfl rfl ?_
  refine x_cv (x_runS C (k_requireField hl gS_F z) (va_cwS 1 C.1.2.2.2.2 gX11_number_X11_requireField rfl rfl rfl (by decide +kernel) ⟨Nat.le_of_ble_eq_true rfl, Nat.le_of_ble_eq_true rfl⟩) rfl dX11_number_1 (rest := []) (Nat.le_of_ble_eq_true rfl) rfl ⟨(by first | exact Nat.le_of_ble_eq_true rfl | (dsimp only; omega)), (by first | exact Nat.le_of_ble_eq_true rfl | (dsimp only; omega))⟩) (fun E x' hx' => v_xout C hex (Nat.le_of_ble_eq_true rfl) (Nat.le_of_ble_eq_true rfl) hx') (fun x' hx' => ?_)
  obtain ⟨rfl, hz⟩ := hx'
  obtain ⟨k, hk, rfl⟩ := isFd_nI hz
  refine v_aload_n C dX11_number_4 (j := 0) rfl rfl ?_
  refine v_get C (T := TX11) (ci := 11) (j := 1) dX11_number_5 wiX11_number_X11 rfl (by decide) wfX11_number_19 (fun _ h => h) (FF_get h1 rfl) ?_
  refine v_iload_n C dX11_number_8 (j := 1) rfl rfl ?_
  refine v_cr (v_runV C (k_pget ht4 h2 hk) (cwV 1 C.1.2.2.2.2 gX11_number_X4_get rfl rfl rfl (by decide +kernel) ⟨Nat.le_of_ble_eq_true rfl, Nat.le_of_ble_eq_true rfl⟩) rfl rfl ((FF_get h2.1 (k := 0) rfl).gC) dX11_number_9 (rest := []) (Nat.le_of_ble_eq_true rfl) rfl ⟨(by first | exact Nat.le_of_ble_eq_true rfl | (dsimp only; omega)), (by first | exact Nat.le_of_ble_eq_true rfl | (dsimp only; omega))⟩) (fun r x' hx' => ?_)
  obtain ⟨rfl, rfl⟩ := hx'
  refine v_ci (v_runV C (k_asNumber ht (fldT hW hk)) (cwV 0 C.1.2.2.2.2 gX11_number_X10_asNumber rfl rfl rfl (by decide +kernel) ⟨Nat.le_of_ble_eq_true rfl, Nat.le_of_ble_eq_true rfl⟩) rfl rfl (FF_txt (fldT hW hk)) dX11_number_12 (rest := []) (Nat.le_of_ble_eq_true rfl) rfl ⟨(by first | exact Nat.le_of_ble_eq_true rfl | (dsimp only; omega)), (by first | exact Nat.le_of_ble_eq_true rfl | (dsimp only; omega))⟩) (fun q x' hx' => ?_)
  obtain ⟨rfl, rfl⟩ := hx'
  refine v_xret ?_
  exact v_ireturn C dX11_number_15 hr (rfl) (Nat.le_of_ble_eq_true rfl) (Nat.le_of_ble_eq_true rfl) (⟨rfl, hz, by rw [nI_clamp (by omega)]⟩)
set_option maxRecDepth 100000 in
set_option maxHeartbeats 8000000 in
theorem k_character (hl : l.stackTraces = false) (ht : tys[0]? = some (cC, .char)) (ht4 : tys[4]? = some (cT, .object RX10)) (hW : wI f T cT cR a na lab sep rnum typ stk w) (z p0 : Int32) : cX D tys z0 A (picF D cC A) l yX11_character wsX11_character ({ frames := 8, cells := 2, slots := 12, locals := 134 } : Room) [.ref (a 0), .int z, .int p0] (f, T) (qI (picF D cC A) A (fun q x => x = (f, T) ∧ isFd z = true ∧ (0 ≤ p0 ∧ p0 < nI (fld sep w.1 z.toNatClampNeg).length) ∧ q = atT (fld sep w.1 z.toNatClampNeg) p0)) (fun E x => E = xIOO ∧ x = (f, T) ∧ ¬ (isFd z = true ∧ 0 ≤ p0 ∧ p0 < nI (fld sep w.1 z.toNatClampNeg).length)) := by
  have hW2 := hW
  obtain ⟨h1, ⟨h2, h2t⟩, -⟩ := hW2
  refine cX_of RX11 (by decide +kernel) rfl rfl (Nat.le_of_ble_eq_true rfl) ?_
  intro p e s m below meth c C hr hex
  refine v_lv (lv' := [(0, _), (1, _), (2, _)]) rfl ?_
  refine v_iload_n C dX11_character_0 (j := 1) rfl rfl ?_
  refine x_cv (x_runS C (k_requireField hl gS_F z) (va_cwS 1 C.1.2.2.2.2 gX11_character_X11_requireField rfl rfl rfl (by decide +kernel) ⟨Nat.le_of_ble_eq_true rfl, Nat.le_of_ble_eq_true rfl⟩) rfl dX11_character_1 (rest := []) (Nat.le_of_ble_eq_true rfl) rfl ⟨(by first | exact Nat.le_of_ble_eq_true rfl | (dsimp only; omega)), (by first | exact Nat.le_of_ble_eq_true rfl | (dsimp only; omega))⟩) (fun E x' hx' => v_xout C hex (Nat.le_of_ble_eq_true rfl) (Nat.le_of_ble_eq_true rfl) ⟨hx'.1, hx'.2.1, fun h => by rw [hx'.2.2] at h; cases h.1⟩) (fun x' hx' => ?_)
  obtain ⟨rfl, hz⟩ := hx'
  obtain ⟨k, hk, rfl⟩ := isFd_nI hz
  have hkc : (nI k).toNatClampNeg = k := nI_clamp (by omega)
  refine v_aload_n C dX11_character_4 (j := 0) rfl rfl ?_
  refine v_get C (T := TX11) (ci := 11) (j := 1) dX11_character_5 wiX11_character_X11 rfl (by decide) wfX11_character_19 (fun _ h => h) (FF_get h1 rfl) ?_
  refine v_iload_n C dX11_character_8 (j := 1) rfl rfl ?_
  refine v_cr (v_runV C (k_pget ht4 h2 hk) (cwV 1 C.1.2.2.2.2 gX11_character_X4_get rfl rfl rfl (by decide +kernel) ⟨Nat.le_of_ble_eq_true rfl, Nat.le_of_ble_eq_true rfl⟩) rfl rfl ((FF_get h2.1 (k := 0) rfl).gC) dX11_character_9 (rest := []) (Nat.le_of_ble_eq_true rfl) rfl ⟨(by first | exact Nat.le_of_ble_eq_true rfl | (dsimp only; omega)), (by first | exact Nat.le_of_ble_eq_true rfl | (dsimp only; omega))⟩) (fun r x' hx' => ?_)
  obtain ⟨rfl, rfl⟩ := hx'
  refine v_iload_n C dX11_character_12 (j := 2) rfl rfl ?_
  refine v_use (fun H hP => FF_le (fldT hW hk) hP) (fun hle => ?_)
  refine x_ci (x_runS C (k_signAt hl ht (fldT hW hk) p0) (va_cwS 2 C.1.2.2.2.2 gX11_character_X11_signAt rfl rfl rfl (by decide +kernel) ⟨Nat.le_of_ble_eq_true rfl, Nat.le_of_ble_eq_true rfl⟩) rfl dX11_character_13 (rest := []) (Nat.le_of_ble_eq_true rfl) rfl ⟨(by first | exact Nat.le_of_ble_eq_true rfl | (dsimp only; omega)), (by first | exact Nat.le_of_ble_eq_true rfl | (dsimp only; omega))⟩) (fun E x' hx' => v_xout C hex (Nat.le_of_ble_eq_true rfl) (Nat.le_of_ble_eq_true rfl) ⟨hx'.1, hx'.2.1, fun h => hx'.2.2 (by rw [hkc] at h; exact h.2)⟩) (fun q x' hx' => ?_)
  obtain ⟨rfl, hp, rfl⟩ := hx'
  refine v_xret ?_
  exact v_ireturn C dX11_character_16 hr (atT_nar hle.2 p0) (Nat.le_of_ble_eq_true rfl) (Nat.le_of_ble_eq_true rfl) (⟨rfl, hz, by rw [hkc]; exact hp, by rw [hkc]⟩)
set_option maxRecDepth 100000 in
set_option maxHeartbeats 8000000 in
theorem k_row (hl : l.stackTraces = false) (ht3 : tys[3]? = some (cR, .object RX6)) (hW : wI f T cT cR a na lab sep rnum typ stk w) (z : Int32) : cX D tys z0 A (picF D cC A) l yX11_row wsX11_row ({ frames := 7, cells := 1, slots := 6, locals := 113 } : Room) [.ref (a 0), .int z] (f, T) (qI (picF D cC A) A (fun q x => x = (f, T) ∧ (0 ≤ z ∧ z < nI w.2.1.length) ∧ q = (w.2.1.getD z.toNatClampNeg ([], 0)).2)) (fun E x => E = xIOO ∧ x = (f, T) ∧ ¬ (0 ≤ z ∧ z < nI w.2.1.length)) := by
  obtain ⟨h1, h2, ⟨ro, h3, h3a, h3d, h3t, h3l⟩, -⟩ := hW
  refine cX_of RX11 (by decide +kernel) rfl rfl (Nat.le_of_ble_eq_true rfl) ?_
  intro p e s m below meth c C hr hex
  refine v_lv (lv' := [(0, _), (1, _)]) rfl ?_
  refine v_iload_n C dX11_row_0 (j := 1) rfl rfl ?_
  refine v_aload_n C dX11_row_1 (j := 0) rfl rfl ?_
  refine v_get C (T := TX11) (ci := 11) (j := 2) dX11_row_2 wiX11_row_X11 rfl (by decide) wfX11_row_26 (fun _ h => h) (FF_get h1 rfl) ?_
  refine v_getN C (T := TX9) (ci := 9) (j := 1) dX11_row_5 wiX11_row_X9 rfl (by decide) (v_nw C 29 rfl) (fun _ h => h) (FF_get h3 rfl) ?_
  refine x_cv (x_runS C (k_requirePlace hl gS_F z (nI w.2.1.length)) (va_cwS 2 C.1.2.2.2.2 gX11_row_X11_requirePlace rfl rfl rfl (by decide +kernel) ⟨Nat.le_of_ble_eq_true rfl, Nat.le_of_ble_eq_true rfl⟩) rfl dX11_row_8 (rest := []) (Nat.le_of_ble_eq_true rfl) rfl ⟨(by first | exact Nat.le_of_ble_eq_true rfl | (dsimp only; omega)), (by first | exact Nat.le_of_ble_eq_true rfl | (dsimp only; omega))⟩) (fun E x' hx' => v_xout C hex (Nat.le_of_ble_eq_true rfl) (Nat.le_of_ble_eq_true rfl) hx') (fun x' hx' => ?_)
  obtain ⟨rfl, hz⟩ := hx'
  have hr20 := h3t.1
  obtain ⟨k, hk, rfl⟩ := nI_of (Int32.not_lt.mpr hz.1)
  have hkl : k < w.2.1.length := lt_of hz.2 hk (by omega)
  refine v_aload_n C dX11_row_11 (j := 0) rfl rfl ?_
  refine v_get C (T := TX11) (ci := 11) (j := 2) dX11_row_12 wiX11_row_X11 rfl (by decide) wfX11_row_26 (fun _ h => h) (FF_get h1 rfl) ?_
  refine v_iload_n C dX11_row_15 (j := 1) rfl rfl ?_
  refine v_cr (v_runV C (k_tget ht3 h3 h3a (i := k) (by omega)) (cwV 1 C.1.2.2.2.2 gX11_row_X9_get rfl rfl rfl (by decide +kernel) ⟨Nat.le_of_ble_eq_true rfl, Nat.le_of_ble_eq_true rfl⟩) rfl rfl ((FF_get h3 (k := 0) rfl).gC) dX11_row_16 (rest := []) (Nat.le_of_ble_eq_true rfl) rfl ⟨(by first | exact Nat.le_of_ble_eq_true rfl | (dsimp only; omega)), (by first | exact Nat.le_of_ble_eq_true rfl | (dsimp only; omega))⟩) (fun r x' hx' => ?_)
  obtain ⟨rfl, rfl⟩ := hx'
  refine v_getN C (T := TX6) (ci := 6) (j := 1) dX11_row_19 wiX11_row_X6 rfl (by decide) (v_nw C 30 rfl) (fun _ h => h) (FF_get (h3t.2.2 k hkl).2 rfl) ?_
  refine v_xret ?_
  exact v_ireturn C dX11_row_22 hr (rfl) (Nat.le_of_ble_eq_true rfl) (Nat.le_of_ble_eq_true rfl) (⟨rfl, hz, by rw [nI_clamp hk]⟩)
set_option maxRecDepth 100000 in
set_option maxHeartbeats 8000000 in
theorem k_key (hl : l.stackTraces = false) (ht : tys[0]? = some (cC, .char)) (ht3 : tys[3]? = some (cR, .object RX6)) (hW : wI f T cT cR a na lab sep rnum typ stk w) (z p0 : Int32) : cX D tys z0 A (picF D cC A) l yX11_key wsX11_key ({ frames := 8, cells := 2, slots := 12, locals := 134 } : Room) [.ref (a 0), .int z, .int p0] (f, T) (qI (picF D cC A) A (fun q x => x = (f, T) ∧ (0 ≤ z ∧ z < nI w.2.1.length) ∧ (0 ≤ p0 ∧ p0 < nI (w.2.1.getD z.toNatClampNeg ([], 0)).1.length) ∧ q = atT (w.2.1.getD z.toNatClampNeg ([], 0)).1 p0)) (fun E x => E = xIOO ∧ x = (f, T) ∧ ¬ ((0 ≤ z ∧ z < nI w.2.1.length) ∧ 0 ≤ p0 ∧ p0 < nI (w.2.1.getD z.toNatClampNeg ([], 0)).1.length)) := by
  obtain ⟨h1, h2, ⟨ro, h3, h3a, h3d, h3t, h3l⟩, -⟩ := hW
  refine cX_of RX11 (by decide +kernel) rfl rfl (Nat.le_of_ble_eq_true rfl) ?_
  intro p e s m below meth c C hr hex
  refine v_lv (lv' := [(0, _), (1, _), (2, _)]) rfl ?_
  refine v_iload_n C dX11_key_0 (j := 1) rfl rfl ?_
  refine v_aload_n C dX11_key_1 (j := 0) rfl rfl ?_
  refine v_get C (T := TX11) (ci := 11) (j := 2) dX11_key_2 wiX11_key_X11 rfl (by decide) wfX11_key_26 (fun _ h => h) (FF_get h1 rfl) ?_
  refine v_getN C (T := TX9) (ci := 9) (j := 1) dX11_key_5 wiX11_key_X9 rfl (by decide) (v_nw C 29 rfl) (fun _ h => h) (FF_get h3 rfl) ?_
  refine x_cv (x_runS C (k_requirePlace hl gS_F z (nI w.2.1.length)) (va_cwS 2 C.1.2.2.2.2 gX11_key_X11_requirePlace rfl rfl rfl (by decide +kernel) ⟨Nat.le_of_ble_eq_true rfl, Nat.le_of_ble_eq_true rfl⟩) rfl dX11_key_8 (rest := []) (Nat.le_of_ble_eq_true rfl) rfl ⟨(by first | exact Nat.le_of_ble_eq_true rfl | (dsimp only; omega)), (by first | exact Nat.le_of_ble_eq_true rfl | (dsimp only; omega))⟩) (fun E x' hx' => v_xout C hex (Nat.le_of_ble_eq_true rfl) (Nat.le_of_ble_eq_true rfl) ⟨hx'.1, hx'.2.1, fun h => hx'.2.2 h.1⟩) (fun x' hx' => ?_)
  obtain ⟨rfl, hz⟩ := hx'
  have hr20 := h3t.1
  obtain ⟨k, hk, rfl⟩ := nI_of (Int32.not_lt.mpr hz.1)
  have hkl : k < w.2.1.length := lt_of hz.2 hk (by omega)
  have hkc : (nI k).toNatClampNeg = k := nI_clamp hk
  refine v_aload_n C dX11_key_11 (j := 0) rfl rfl ?_
  refine v_get C (T := TX11) (ci := 11) (j := 2) dX11_key_12 wiX11_key_X11 rfl (by decide) wfX11_key_26 (fun _ h => h) (FF_get h1 rfl) ?_
  refine v_iload_n C dX11_key_15 (j := 1) rfl rfl ?_
  refine v_cr (v_runV C (k_tget ht3 h3 h3a (i := k) (by omega)) (cwV 1 C.1.2.2.2.2 gX11_key_X9_get rfl rfl rfl (by decide +kernel) ⟨Nat.le_of_ble_eq_true rfl, Nat.le_of_ble_eq_true rfl⟩) rfl rfl ((FF_get h3 (k := 0) rfl).gC) dX11_key_16 (rest := []) (Nat.le_of_ble_eq_true rfl) rfl ⟨(by first | exact Nat.le_of_ble_eq_true rfl | (dsimp only; omega)), (by first | exact Nat.le_of_ble_eq_true rfl | (dsimp only; omega))⟩) (fun r x' hx' => ?_)
  obtain ⟨rfl, rfl⟩ := hx'
  refine v_getN C (T := TX6) (ci := 6) (j := 0) dX11_key_19 wiX11_key_X6 rfl (by decide) (v_nw C 31 rfl) (fun _ h => h) (FF_get (h3t.2.2 k hkl).2 rfl) ?_
  refine v_iload_n C dX11_key_22 (j := 2) rfl rfl ?_
  refine v_use (fun H hP => FF_le (h3t.2.2 k hkl).1 hP) (fun hle => ?_)
  refine x_ci (x_runS C (k_signAt hl ht (h3t.2.2 k hkl).1 p0) (va_cwS 2 C.1.2.2.2.2 gX11_key_X11_signAt rfl rfl rfl (by decide +kernel) ⟨Nat.le_of_ble_eq_true rfl, Nat.le_of_ble_eq_true rfl⟩) rfl dX11_key_23 (rest := []) (Nat.le_of_ble_eq_true rfl) rfl ⟨(by first | exact Nat.le_of_ble_eq_true rfl | (dsimp only; omega)), (by first | exact Nat.le_of_ble_eq_true rfl | (dsimp only; omega))⟩) (fun E x' hx' => v_xout C hex (Nat.le_of_ble_eq_true rfl) (Nat.le_of_ble_eq_true rfl) ⟨hx'.1, hx'.2.1, fun h => hx'.2.2 (by rw [hkc] at h; exact h.2)⟩) (fun q x' hx' => ?_)
  obtain ⟨rfl, hp, rfl⟩ := hx'
  refine v_xret ?_
  exact v_ireturn C dX11_key_26 hr (atT_nar hle.2 p0) (Nat.le_of_ble_eq_true rfl) (Nat.le_of_ble_eq_true rfl) (⟨rfl, hz, by rw [hkc]; exact hp, by rw [hkc]⟩)
set_option maxRecDepth 100000 in
set_option maxHeartbeats 8000000 in
theorem k_line (hl : l.stackTraces = false) (ht : tys[0]? = some (cC, .char)) (ht4 : tys[4]? = some (cT, .object RX10)) (hW : wI f T cT cR a na lab sep rnum typ stk w) (z p0 : Int32) : cX D tys z0 A (picF D cC A) l yX11_line wsX11_line ({ frames := 8, cells := 2, slots := 12, locals := 134 } : Room) [.ref (a 0), .int z, .int p0] (f, T) (qI (picF D cC A) A (fun q x => x = (f, T) ∧ (0 ≤ z ∧ z < nI w.2.2.1.length) ∧ (0 ≤ p0 ∧ p0 < nI (w.2.2.1.getD z.toNatClampNeg []).length) ∧ q = atT (w.2.2.1.getD z.toNatClampNeg []) p0)) (fun E x => E = xIOO ∧ x = (f, T) ∧ ¬ ((0 ≤ z ∧ z < nI w.2.2.1.length) ∧ 0 ≤ p0 ∧ p0 < nI (w.2.2.1.getD z.toNatClampNeg []).length)) := by
  obtain ⟨h1, h2, h3, ⟨st, h4, h4a, h4t⟩, -⟩ := hW
  refine cX_of RX11 (by decide +kernel) rfl rfl (Nat.le_of_ble_eq_true rfl) ?_
  intro p e s m below meth c C hr hex
  refine v_lv (lv' := [(0, _), (1, _), (2, _)]) rfl ?_
  refine v_iload_n C dX11_line_0 (j := 1) rfl rfl ?_
  refine v_aload_n C dX11_line_1 (j := 0) rfl rfl ?_
  refine v_get C (T := TX11) (ci := 11) (j := 3) dX11_line_2 wiX11_line_X11 rfl (by decide) wfX11_line_33 (fun _ h => h) (FF_get h1 rfl) ?_
  refine v_getN C (T := TX5) (ci := 5) (j := 2) dX11_line_5 wiX11_line_X5 rfl (by decide) (v_nw C 32 rfl) (fun _ h => h) (FF_get h4 rfl) ?_
  refine x_cv (x_runS C (k_requirePlace hl gS_F z (nI w.2.2.1.length)) (va_cwS 2 C.1.2.2.2.2 gX11_line_X11_requirePlace rfl rfl rfl (by decide +kernel) ⟨Nat.le_of_ble_eq_true rfl, Nat.le_of_ble_eq_true rfl⟩) rfl dX11_line_8 (rest := []) (Nat.le_of_ble_eq_true rfl) rfl ⟨(by first | exact Nat.le_of_ble_eq_true rfl | (dsimp only; omega)), (by first | exact Nat.le_of_ble_eq_true rfl | (dsimp only; omega))⟩) (fun E x' hx' => v_xout C hex (Nat.le_of_ble_eq_true rfl) (Nat.le_of_ble_eq_true rfl) ⟨hx'.1, hx'.2.1, fun h => hx'.2.2 h.1⟩) (fun x' hx' => ?_)
  obtain ⟨rfl, hz⟩ := hx'
  have hr20 := h4t.2.1
  obtain ⟨k, hk, rfl⟩ := nI_of (Int32.not_lt.mpr hz.1)
  have hkl : k < w.2.2.1.length := lt_of hz.2 hk (by omega)
  have hkc : (nI k).toNatClampNeg = k := nI_clamp hk
  refine v_aload_n C dX11_line_11 (j := 0) rfl rfl ?_
  refine v_get C (T := TX11) (ci := 11) (j := 3) dX11_line_12 wiX11_line_X11 rfl (by decide) wfX11_line_33 (fun _ h => h) (FF_get h1 rfl) ?_
  refine v_iload_n C dX11_line_15 (j := 1) rfl rfl ?_
  refine v_cr (v_runV C (k_oget ht4 h4 h4a h4t.1 (i := k) (by omega)) (cwV 1 C.1.2.2.2.2 gX11_line_X5_get rfl rfl rfl (by decide +kernel) ⟨Nat.le_of_ble_eq_true rfl, Nat.le_of_ble_eq_true rfl⟩) rfl rfl ((FF_get h4 (k := 0) rfl).gC) dX11_line_16 (rest := []) (Nat.le_of_ble_eq_true rfl) rfl ⟨(by first | exact Nat.le_of_ble_eq_true rfl | (dsimp only; omega)), (by first | exact Nat.le_of_ble_eq_true rfl | (dsimp only; omega))⟩) (fun r x' hx' => ?_)
  obtain ⟨rfl, rfl⟩ := hx'
  refine v_iload_n C dX11_line_19 (j := 2) rfl rfl ?_
  refine v_use (fun H hP => FF_le (h4t.2.2.2 k hkl) hP) (fun hle => ?_)
  refine x_ci (x_runS C (k_signAt hl ht (h4t.2.2.2 k hkl) p0) (va_cwS 2 C.1.2.2.2.2 gX11_line_X11_signAt rfl rfl rfl (by decide +kernel) ⟨Nat.le_of_ble_eq_true rfl, Nat.le_of_ble_eq_true rfl⟩) rfl dX11_line_20 (rest := []) (Nat.le_of_ble_eq_true rfl) rfl ⟨(by first | exact Nat.le_of_ble_eq_true rfl | (dsimp only; omega)), (by first | exact Nat.le_of_ble_eq_true rfl | (dsimp only; omega))⟩) (fun E x' hx' => v_xout C hex (Nat.le_of_ble_eq_true rfl) (Nat.le_of_ble_eq_true rfl) ⟨hx'.1, hx'.2.1, fun h => hx'.2.2 (by rw [hkc] at h; exact h.2)⟩) (fun q x' hx' => ?_)
  obtain ⟨rfl, hp, rfl⟩ := hx'
  refine v_xret ?_
  exact v_ireturn C dX11_line_23 hr (atT_nar hle.2 p0) (Nat.le_of_ble_eq_true rfl) (Nat.le_of_ble_eq_true rfl) (⟨rfl, hz, by rw [hkc]; exact hp, by rw [hkc]⟩)
set_option maxRecDepth 100000 in
set_option maxHeartbeats 8000000 in
theorem k_setField (hl : l.stackTraces = false) (ht : tys[0]? = some (cC, .char)) (ht4 : tys[4]? = some (cT, .object RX10)) (hW : wI f T cT cR a na lab sep rnum typ stk w) (hL : labI a lab) (hsep : ch sep) (z n0 : Int32) : cX D tys z0 A (picF D cC A) l yX11_setField wsX11_setField ({ frames := 7, cells := 1, slots := 6, locals := 112 } : Room) [.ref (a 0), .int z, .int n0] (f, T) (qI (picF D cC A) A (fun q x => ∃ f' T', x = (f', T') ∧ isFd z = true ∧ kpN [4] f f' ∧ lpT lab [1, 2, 4] T T' ∧ q = nI (nfd sep (setR sep w.1 z.toNatClampNeg (dec n0))) ∧ wI f' T' cT cR a na lab sep rnum typ stk (setR sep w.1 z.toNatClampNeg (dec n0), w.2))) (fun E x => E = xIOO ∧ x = (f, T) ∧ isFd z = false) := by
  have hW2 := hW
  obtain ⟨h1, ⟨h2, h2t⟩, h3, h4, h5, h6, ⟨v0, h7⟩⟩ := hW2
  have hL2 := hL
  obtain ⟨b1, b2, b3, b4, b5, b6, b7, b8, b9⟩ := hL2
  refine cX_of RX11 (by decide +kernel) rfl rfl (Nat.le_of_ble_eq_true rfl) ?_
  intro p e s m below meth c C hr hex
  refine v_lv (lv' := [(0, _), (1, _), (2, _)]) rfl ?_
  refine v_iload_n C dX11_setField_0 (j := 1) rfl rfl ?_
  refine x_cv (x_runS C (k_requireField hl gS_F z) (va_cwS 1 C.1.2.2.2.2 gX11_setField_X11_requireField rfl rfl rfl (by decide +kernel) ⟨Nat.le_of_ble_eq_true rfl, Nat.le_of_ble_eq_true rfl⟩) rfl dX11_setField_1 (rest := []) (Nat.le_of_ble_eq_true rfl) rfl ⟨(by first | exact Nat.le_of_ble_eq_true rfl | (dsimp only; omega)), (by first | exact Nat.le_of_ble_eq_true rfl | (dsimp only; omega))⟩) (fun E x' hx' => v_xout C hex (Nat.le_of_ble_eq_true rfl) (Nat.le_of_ble_eq_true rfl) hx') (fun x' hx' => ?_)
  obtain ⟨rfl, hz⟩ := hx'
  obtain ⟨k, hk, rfl⟩ := isFd_nI hz
  have hkc : (nI k).toNatClampNeg = k := nI_clamp (by omega)
  refine v_aload_n C dX11_setField_4 (j := 0) rfl rfl ?_
  refine v_get C (T := TX11) (ci := 11) (j := 6) dX11_setField_5 wiX11_setField_X11 rfl (by decide) wfX11_setField_51 (fun _ h => h) (FF_get h1 rfl) ?_
  refine v_iload_n C dX11_setField_8 (j := 2) rfl rfl ?_
  refine v_cv (v_runV C (k_write ht h7 n0) (cwV 1 C.1.2.2.2.2 gX11_setField_X10_write rfl rfl rfl (by decide +kernel) ⟨Nat.le_of_ble_eq_true rfl, Nat.le_of_ble_eq_true rfl⟩) rfl rfl (FF_txt h7) dX11_setField_9 (rest := []) (Nat.le_of_ble_eq_true rfl) rfl ⟨(by first | exact Nat.le_of_ble_eq_true rfl | (dsimp only; omega)), (by first | exact Nat.le_of_ble_eq_true rfl | (dsimp only; omega))⟩) (fun x' hx' => ?_)
  subst hx'
  have hW3 := hW.tx hL (T' := va_up T (a 12) (some (dec n0))) (lpT_up (by rw [b4]; decide) _)
  refine v_aload_n C dX11_setField_12 (j := 0) rfl rfl ?_
  refine v_get C (T := TX11) (ci := 11) (j := 1) dX11_setField_13 wiX11_setField_X11 rfl (by decide) wfX11_setField_19 (fun _ h => h) (FF_get h1 rfl) ?_
  refine v_iload_n C dX11_setField_16 (j := 1) rfl rfl ?_
  refine v_aload_n C dX11_setField_17 (j := 0) rfl rfl ?_
  refine v_get C (T := TX11) (ci := 11) (j := 6) dX11_setField_18 wiX11_setField_X11 rfl (by decide) wfX11_setField_51 (fun _ h => h) (FF_get h1 rfl) ?_
  refine v_cv (v_runV C (k_pset ht ht4 hW3.2.1.1 b8 hsep hW3.2.1.2 hk (va_up_same _ _ _) (fun z => by have := b1; rw [← z, b4] at this; cases this) (fun k hk z => by have := b2 k hk; rw [← z, b4] at this; cases this)) (cwV 2 C.1.2.2.2.2 gX11_setField_X4_set rfl rfl rfl (by decide +kernel) ⟨Nat.le_of_ble_eq_true rfl, Nat.le_of_ble_eq_true rfl⟩) rfl rfl ((FF_get h2.1 (k := 0) rfl).gC) dX11_setField_21 (rest := []) (Nat.le_of_ble_eq_true rfl) rfl ⟨(by first | exact Nat.le_of_ble_eq_true rfl | (dsimp only; omega)), (by first | exact Nat.le_of_ble_eq_true rfl | (dsimp only; omega))⟩) (fun x' hx' => ?_)
  obtain ⟨T2, rfl, e1, e2⟩ := hx'
  have k2 : kpN [4] f (va_up f (a 2) (pgE (a 3) (a 4) sep (nI (nfd sep (setR sep w.1 k (dec n0)))) rnum)) := kpN_up h2.1 (by simp [kdn]) _
  have l2 : lpT lab [1, 2, 4] T T2 := (lpT_up (T := T) (p0 := a 12) (by rw [b4]; decide) (dec n0)).tr ⟨fun p hp => e2 p (fun z => hp (by rw [z, b1]; decide)) (fun k hk z => hp (by rw [z, b2 k hk]; decide)), fun p hp => by
      by_cases z : p = a 3
      · rw [z]; exact ⟨_, e1.1⟩
      · by_cases z2 : ∃ k, k < 12 ∧ p = pcA a k
        · obtain ⟨k, hk, rfl⟩ := z2; exact ⟨_, e1.2 k hk⟩
        · rw [e2 p z (fun k hk zz => z2 ⟨k, hk, zz⟩)]; exact hp⟩
  have g1 := k2 _ _ h1 (by simp [kdn])
  refine v_aload_n C dX11_setField_24 (j := 0) rfl rfl ?_
  refine v_get C (T := TX11) (ci := 11) (j := 1) dX11_setField_25 wiX11_setField_X11 rfl (by decide) wfX11_setField_19 (fun _ h => h) (FF_get g1 rfl) ?_
  refine v_getN C (T := TX4) (ci := 4) (j := 3) dX11_setField_28 wiX11_setField_X4 rfl (by decide) (v_nw C 26 rfl) (fun _ h => h) (FF_get (va_up_same _ _ _) rfl) ?_
  refine v_xret ?_
  exact v_ireturn C dX11_setField_31 hr (rfl) (Nat.le_of_ble_eq_true rfl) (Nat.le_of_ble_eq_true rfl) (⟨_, _, rfl, hz, k2, l2, by rw [hkc], by rw [hkc]; exact ⟨g1, ⟨⟨va_up_same _ _ _, by obtain ⟨pf, q1, q2⟩ := h2.2; exact ⟨pf, k2 _ _ q1 (by simp [kdn]), q2⟩⟩, e1⟩, h3.kp k2 l2 (by decide) (by decide) (by decide) (by decide), h4.kp hL k2 l2 (by decide) (by decide) (by decide), h5.kp k2 l2 (by decide) (by decide), by rw [l2.1 _ (by rw [b3]; decide)]; exact h6, l2.2 _ ⟨v0, h7⟩⟩⟩)
set_option maxRecDepth 100000 in
set_option maxHeartbeats 8000000 in
theorem k_setSeparator (hl : l.stackTraces = false) (ht : tys[0]? = some (cC, .char)) (ht4 : tys[4]? = some (cT, .object RX10)) (hW : wI f T cT cR a na lab sep rnum typ stk w) (hL : labI a lab) (z : Int32) : cX D tys z0 A (picF D cC A) l yX11_setSeparator wsX11_setSeparator ({ frames := 7, cells := 1, slots := 6, locals := 112 } : Room) [.ref (a 0), .int z] (f, T) (qI (picF D cC A) A (fun q x => ∃ f' T', x = (f', T') ∧ isCd z = true ∧ kpN [4] f f' ∧ lpT lab [2] T T' ∧ q = nI (nfd (sgn z) w.1) ∧ wI f' T' cT cR a na lab (sgn z) rnum typ stk w)) (fun E x => E = xIAE ∧ x = (f, T) ∧ isCd z = false) := by
  have hW2 := hW
  obtain ⟨h1, ⟨h2, h2t⟩, h3, h4, h5, h6, h7⟩ := hW2
  have hL2 := hL
  obtain ⟨b1, b2, b3, b4, b5, b6, b7, b8, b9⟩ := hL2
  refine cX_of RX11 (by decide +kernel) rfl rfl (Nat.le_of_ble_eq_true rfl) ?_
  intro p e s m below meth c C hr hex
  refine v_lv (lv' := [(0, _), (1, _)]) rfl ?_
  refine v_iload_n C dX11_setSeparator_0 (j := 1) rfl rfl ?_
  refine x_cv (x_runS C (k_requireCode hl gS_F z) (va_cwS 1 C.1.2.2.2.2 gX11_setSeparator_X11_requireCode rfl rfl rfl (by decide +kernel) ⟨Nat.le_of_ble_eq_true rfl, Nat.le_of_ble_eq_true rfl⟩) rfl dX11_setSeparator_1 (rest := []) (Nat.le_of_ble_eq_true rfl) rfl ⟨(by first | exact Nat.le_of_ble_eq_true rfl | (dsimp only; omega)), (by first | exact Nat.le_of_ble_eq_true rfl | (dsimp only; omega))⟩) (fun E x' hx' => v_xout C hex (Nat.le_of_ble_eq_true rfl) (Nat.le_of_ble_eq_true rfl) hx') (fun x' hx' => ?_)
  obtain ⟨rfl, hz⟩ := hx'
  refine v_aload_n C dX11_setSeparator_4 (j := 0) rfl rfl ?_
  refine v_get C (T := TX11) (ci := 11) (j := 1) dX11_setSeparator_5 wiX11_setSeparator_X11 rfl (by decide) wfX11_setSeparator_19 (fun _ h => h) (FF_get h1 rfl) ?_
  refine v_iload_n C dX11_setSeparator_8 (j := 1) rfl rfl ?_
  refine v_ci (v_runS C (k_signOf hz) (va_cwS 1 C.1.2.2.2.2 gX11_setSeparator_X11_signOf rfl rfl rfl (by decide +kernel) ⟨Nat.le_of_ble_eq_true rfl, Nat.le_of_ble_eq_true rfl⟩) rfl dX11_setSeparator_9 (rest := [_]) (Nat.le_of_ble_eq_true rfl) rfl ⟨(by first | exact Nat.le_of_ble_eq_true rfl | (dsimp only; omega)), (by first | exact Nat.le_of_ble_eq_true rfl | (dsimp only; omega))⟩) (fun q x' hx' => ?_)
  obtain ⟨rfl, rfl⟩ := hx'
  refine v_putN C (T := TX4) (ci := 4) (j := 2) (ty := .char) dX11_setSeparator_12 wiX11_setSeparator_X4 tyX4 tyX4_ok nmX4 rfl (by decide) (v_nw C 25 rfl) (fun _ h => h) rfl rfl ((sgn_ch hz).2) (sgn_fit hz) (FF_put h2.1 (Nat.le_of_ble_eq_true rfl)) ?_
  have k1 : kpN [4] f (va_up f (a 2) (pgE (a 3) (a 4) (sgn z) (nI (nfd sep w.1)) rnum)) := kpN_up h2.1 (by simp [kdn]) _
  have g1 := k1 _ _ h1 (by simp [kdn])
  have g2 : pgO (va_up f (a 2) (pgE (a 3) (a 4) (sgn z) (nI (nfd sep w.1)) rnum)) cT (a 2) (a 3) (a 4) (pcA a) (sgn z) (nI (nfd sep w.1)) rnum := ⟨va_up_same _ _ _, by obtain ⟨pf, q1, q2⟩ := h2.2; exact ⟨pf, k1 _ _ q1 (by simp [kdn]), q2⟩⟩
  refine v_aload_n C dX11_setSeparator_15 (j := 0) rfl rfl ?_
  refine v_get C (T := TX11) (ci := 11) (j := 1) dX11_setSeparator_16 wiX11_setSeparator_X11 rfl (by decide) wfX11_setSeparator_19 (fun _ h => h) (FF_get g1 rfl) ?_
  refine v_cv (v_runV C (k_cut ht ht4 g2 b8 h2t.1 (fun j hj => ⟨_, h2t.2 j hj⟩)) (cwV 0 C.1.2.2.2.2 gX11_setSeparator_X4_cut rfl rfl rfl (by decide +kernel) ⟨Nat.le_of_ble_eq_true rfl, Nat.le_of_ble_eq_true rfl⟩) rfl rfl ((FF_get g2.1 (k := 0) rfl).gC) dX11_setSeparator_19 (rest := []) (Nat.le_of_ble_eq_true rfl) rfl ⟨(by first | exact Nat.le_of_ble_eq_true rfl | (dsimp only; omega)), (by first | exact Nat.le_of_ble_eq_true rfl | (dsimp only; omega))⟩) (fun x' hx' => ?_)
  obtain ⟨T2, rfl, e1, e2⟩ := hx'
  have k2 : kpN [4] f (va_up (va_up f (a 2) (pgE (a 3) (a 4) (sgn z) (nI (nfd sep w.1)) rnum)) (a 2) (pgE (a 3) (a 4) (sgn z) (nI (nfd (sgn z) w.1)) rnum)) := k1.tr (kpN_up g2.1 (by simp [kdn]) _)
  have l2 : lpT lab [2] T T2 := ⟨fun p hp => e2 p (fun k hk z => hp (by rw [z, b2 k hk]; decide)), fun p hp => by
      by_cases z2 : ∃ k, k < 12 ∧ p = pcA a k
      · obtain ⟨k, hk, rfl⟩ := z2; exact ⟨_, e1 k hk⟩
      · rw [e2 p (fun k hk zz => z2 ⟨k, hk, zz⟩)]; exact hp⟩
  have g3 := k2 _ _ h1 (by simp [kdn])
  refine v_aload_n C dX11_setSeparator_22 (j := 0) rfl rfl ?_
  refine v_get C (T := TX11) (ci := 11) (j := 1) dX11_setSeparator_23 wiX11_setSeparator_X11 rfl (by decide) wfX11_setSeparator_19 (fun _ h => h) (FF_get g3 rfl) ?_
  refine v_getN C (T := TX4) (ci := 4) (j := 3) dX11_setSeparator_26 wiX11_setSeparator_X4 rfl (by decide) (v_nw C 26 rfl) (fun _ h => h) (FF_get (va_up_same _ _ _) rfl) ?_
  refine v_xret ?_
  exact v_ireturn C dX11_setSeparator_29 hr (rfl) (Nat.le_of_ble_eq_true rfl) (Nat.le_of_ble_eq_true rfl) (⟨_, _, rfl, hz, k2, l2, rfl, ⟨g3, ⟨⟨va_up_same _ _ _, by obtain ⟨pf, q1, q2⟩ := h2.2; exact ⟨pf, k2 _ _ q1 (by simp [kdn]), q2⟩⟩, by rw [l2.1 _ (by rw [b1]; decide)]; exact h2t.1, fun j hj => by rw [e1 j hj]; unfold fld; rw [if_neg (by omega)]; rfl⟩, h3.kp k2 l2 (by decide) (by decide) (by decide) (by decide), h4.kp hL k2 l2 (by decide) (by decide) (by decide), h5.kp k2 l2 (by decide) (by decide), by rw [l2.1 _ (by rw [b3]; decide)]; exact h6, l2.2 _ h7⟩⟩)
set_option maxRecDepth 100000 in
set_option maxHeartbeats 8000000 in
theorem k_type (hl : l.stackTraces = false) (ht : tys[0]? = some (cC, .char)) (hW : wI f T cT cR a na lab sep rnum typ stk w) (hL : labI a lab) (z : Int32) : cX D tys z0 A (picF D cC A) l yX11_type wsX11_type ({ frames := 7, cells := 2, slots := 12, locals := 112 } : Room) [.ref (a 0), .int z] (f, T) (qI (picF D cC A) A (fun q x => ∃ T', x = (f, T') ∧ isCd z = true ∧ typ.length < 60 ∧ lpT lab [3] T T' ∧ q = nI (typ.length + 1) ∧ wI f T' cT cR a na lab sep rnum (typ ++ [sgn z]) stk w)) (fun E x => x = (f, T) ∧ ((E = xIAE ∧ isCd z = false) ∨ (E = xISE ∧ isCd z = true ∧ 60 ≤ typ.length))) := by
  have hW2 := hW
  obtain ⟨h1, h2, h3, h4, h5, h6, h7⟩ := hW2
  have hL2 := hL
  obtain ⟨b1, b2, b3, b4, b5, b6, b7, b8, b9⟩ := hL2
  refine cX_of RX11 (by decide +kernel) rfl rfl (Nat.le_of_ble_eq_true rfl) ?_
  intro p e s m below meth c C hr hex
  refine v_lv (lv' := [(0, _), (1, _)]) rfl ?_
  refine v_iload_n C dX11_type_0 (j := 1) rfl rfl ?_
  refine x_cv (x_runS C (k_requireCode hl gS_F z) (va_cwS 1 C.1.2.2.2.2 gX11_type_X11_requireCode rfl rfl rfl (by decide +kernel) ⟨Nat.le_of_ble_eq_true rfl, Nat.le_of_ble_eq_true rfl⟩) rfl dX11_type_1 (rest := []) (Nat.le_of_ble_eq_true rfl) rfl ⟨(by first | exact Nat.le_of_ble_eq_true rfl | (dsimp only; omega)), (by first | exact Nat.le_of_ble_eq_true rfl | (dsimp only; omega))⟩) (fun E x' hx' => v_xout C hex (Nat.le_of_ble_eq_true rfl) (Nat.le_of_ble_eq_true rfl) ⟨hx'.2.1, Or.inl ⟨hx'.1, hx'.2.2⟩⟩) (fun x' hx' => ?_)
  obtain ⟨rfl, hz⟩ := hx'
  refine v_use (fun H hP => FF_le h6 hP) (fun hle => ?_)
  refine v_aload_n C dX11_type_4 (j := 0) rfl rfl ?_
  refine v_get C (T := TX11) (ci := 11) (j := 5) dX11_type_5 wiX11_type_X11 rfl (by decide) wfX11_type_47 (fun _ h => h) (FF_get h1 rfl) ?_
  refine v_getN C (T := TX10) (ci := 10) (j := 1) dX11_type_8 wiX11_type_X10 rfl (by decide) (v_nw C 27 rfl) (fun _ h => h) (FF_len h6) ?_
  refine v_bipush C dX11_type_11 (v := 60) (by decide) ?_
  refine v_icmp_lt C 26 dX11_type_13 (by decide) (fun c1 => ?_) (fun c1 => ?_)
  · skip
    have c2 : typ.length < 60 := lt_of (b := 60) c1 (by omega) (by decide)
    refine v_aload_n C dX11_type_26 (j := 0) rfl rfl ?_
    refine v_get C (T := TX11) (ci := 11) (j := 5) dX11_type_27 wiX11_type_X11 rfl (by decide) wfX11_type_47 (fun _ h => h) (FF_get h1 rfl) ?_
    refine v_iload_n C dX11_type_30 (j := 1) rfl rfl ?_
    refine v_ci (v_runS C (k_signOf hz) (va_cwS 1 C.1.2.2.2.2 gX11_type_X11_signOf rfl rfl rfl (by decide +kernel) ⟨Nat.le_of_ble_eq_true rfl, Nat.le_of_ble_eq_true rfl⟩) rfl dX11_type_31 (rest := [_]) (Nat.le_of_ble_eq_true rfl) rfl ⟨(by first | exact Nat.le_of_ble_eq_true rfl | (dsimp only; omega)), (by first | exact Nat.le_of_ble_eq_true rfl | (dsimp only; omega))⟩) (fun q x' hx' => ?_)
    obtain ⟨rfl, rfl⟩ := hx'
    refine v_cv (v_runV C (k_put ht h6 (sgn_ch hz).2) (cwV 1 C.1.2.2.2.2 gX11_type_X10_put rfl rfl rfl (by decide +kernel) ⟨Nat.le_of_ble_eq_true rfl, Nat.le_of_ble_eq_true rfl⟩) rfl rfl (FF_txt h6) dX11_type_34 (rest := []) (Nat.le_of_ble_eq_true rfl) rfl ⟨(by first | exact Nat.le_of_ble_eq_true rfl | (dsimp only; omega)), (by first | exact Nat.le_of_ble_eq_true rfl | (dsimp only; omega))⟩) (fun x' hx' => ?_)
    subst hx'
    have e1 : put60 typ (sgn z) = typ ++ [sgn z] := if_pos c2
    rw [e1]
    have l2 : lpT lab [3] T (va_up T (a 11) (some (typ ++ [sgn z]))) := lpT_up (by rw [b3]; decide) _
    refine v_aload_n C dX11_type_37 (j := 0) rfl rfl ?_
    refine v_get C (T := TX11) (ci := 11) (j := 5) dX11_type_38 wiX11_type_X11 rfl (by decide) wfX11_type_47 (fun _ h => h) (FF_get h1 rfl) ?_
    refine v_getN C (T := TX10) (ci := 10) (j := 1) dX11_type_41 wiX11_type_X10 rfl (by decide) (v_nw C 27 rfl) (fun _ h => h) (FF_len (va_up_same _ _ _)) ?_
    refine v_xret ?_
    exact v_ireturn C dX11_type_44 hr (rfl) (Nat.le_of_ble_eq_true rfl) (Nat.le_of_ble_eq_true rfl) (⟨_, rfl, hz, c2, l2, by simp, ⟨h1, h2.kp hL (kpN.rf (ns := [])) l2 (by decide) (by decide) (by decide) (by decide), h3.kp (kpN.rf (ns := [])) l2 (by decide) (by decide) (by decide) (by decide), h4.kp hL (kpN.rf (ns := [])) l2 (by decide) (by decide) (by decide), h5.kp (kpN.rf (ns := [])) l2 (by decide) (by decide), va_up_same _ _ _, l2.2 _ h7⟩⟩)
  · skip
    exact v_throwS C hl (text := "60 characters are typed") 18 rfl rfl wwX11_type_cl69 wwX11_type_in_ISE (by decide) wgX11_type_ISE wbISE woISE dX11_type_16 dX11_type_19 dX11_type_20 dX11_type_22 dX11_type_25 hex (Nat.le_of_ble_eq_true rfl) (Nat.le_of_ble_eq_true rfl) (Nat.le_of_ble_eq_true rfl) (Nat.le_of_ble_eq_true rfl) (Nat.le_of_ble_eq_true rfl) (Nat.le_of_ble_eq_true rfl) (gS_F) (⟨rfl, Or.inr ⟨rfl, hz, le_ofn (b := 60) c1 (by omega) (by decide)⟩⟩)
end FS
