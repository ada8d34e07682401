/-! ===== the reference: numbers in fields ===== -/
theorem wfX12_numeric_13 : Cond.fieldLink RX12 13 "FieldScribeModel" (TX12 1).2.1 (TX12 1).2.2.1 ∈ wsX12_numeric := by decide +kernel
theorem wiX12_numeric_X12 : ∀ w ∈ u_ws RX12 TX12 34, w ∈ wsX12_numeric := by decide +kernel
theorem wfX12_numberOf_13 : Cond.fieldLink RX12 13 "FieldScribeModel" (TX12 1).2.1 (TX12 1).2.2.1 ∈ wsX12_numberOf := by decide +kernel
theorem wiX12_numberOf_X12 : ∀ w ∈ u_ws RX12 TX12 34, w ∈ wsX12_numberOf := by decide +kernel
theorem str_len {r s : List Int32} {b e : Nat} (h : str r b e s) : s.length = e - b := by
  rw [h.2.2, List.length_take, List.length_drop]
  have := h.2.1
  omega
theorem str_get {r s : List Int32} {b e j : Nat} (h : str r b e s) (hj : j < s.length) : s.getD j 0 = r.getD (b + j) 0 := by
  have h1 := str_len h
  rw [h.2.2]
  simp only [List.getD_eq_getElem?_getD]
  rw [List.getElem?_take, if_pos (by omega), List.getElem?_drop]
theorem isNum_eq (s : List Int32) : isNum s = (decide (0 < nlen s) && decide (nlen s = s.length)) := by
  unfold isNum
  rw [Bool.eq_iff_iff]
  simp only [Bool.and_eq_true, decide_eq_true_eq]
  omega
theorem mul10 (a c : Int32) : 10 * a + c - 48 = a * 10 + (c - 48) := by
  rw [Int32.mul_comm, Int32.sub_eq_add_neg, Int32.sub_eq_add_neg, Int32.add_assoc]
section MN
variable {l : Launch} {D : va_G} {tys : List (ClassId × FieldType)} {z0 : Nat} {A : Nat → Prop} {cI cZ : ClassId} {md : Nat} {ad : Nat → Nat} {I : Nat → Int32} {M : Nat → Nat → Int32} {sep : Int32} {r u v : List Int32}
set_option maxRecDepth 100000 in
set_option maxHeartbeats 8000000 in
theorem m_numeric0 (ht1 : tys[1]? = some (cI, .int)) (hR : mRec I M r) {k b e2 : Nat} {t : List Int32} (hk : k ≤ 12) (hb : bOf I M k = nI b) (he : eOf I M k = nI e2) (hs : str r b e2 t) : ct D tys z0 A (picM D cI cZ md ad A) l yX12_numeric wsX12_numeric (rmL 2 42) [.ref md, .int (nI k)] (I, M) (qI (picM D cI cZ md ad A) A (fun q x => x = (I, M) ∧ q = nI (b + nlen t))) := by
  have hl := str_len hs
  have h60 := hR.2.1
  have hbe := hs.1
  have her := hs.2.1
  have hst := nst_le t
  refine ct_of RX12 (by decide +kernel) rfl rfl (Nat.le_of_ble_eq_true rfl) ?_
  intro p e s m below meth c C hr hm
  refine v_lv (lv' := [(0, _), (1, _)]) rfl ?_
  refine v_aload_n C dX12_numeric_0 (j := 0) rfl rfl ?_
  refine v_iload_n C dX12_numeric_1 (j := 1) rfl rfl ?_
  refine v_ci (v_runV C (m_from ht1 hk hb) (cwV 1 C.1.2.2.2.2 gX12_numeric_X12_from rfl rfl rfl (by decide +kernel) ⟨Nat.le_of_ble_eq_true rfl, Nat.le_of_ble_eq_true rfl⟩) rfl rfl (M_gC) dX12_numeric_2 (rest := []) (Nat.le_of_ble_eq_true rfl) rfl ⟨(by first | exact Nat.le_of_ble_eq_true rfl | (dsimp only; omega)), (by first | exact Nat.le_of_ble_eq_true rfl | (dsimp only; omega))⟩) (fun q x' hx' => ?_)
  obtain ⟨rfl, rfl⟩ := hx'
  refine v_istore_n C dX12_numeric_5 rfl (by decide) (lv' := [(2, _), (0, _), (1, _)]) rfl ?_
  refine v_iload_n C dX12_numeric_6 (j := 0) rfl rfl ?_
  refine v_aload_n C dX12_numeric_7 (j := 1) rfl rfl ?_
  refine v_iload_n C dX12_numeric_8 (j := 2) rfl rfl ?_
  refine v_ci (v_runV C (m_to ht1 hk he) (cwV 1 C.1.2.2.2.2 gX12_numeric_X12_to rfl rfl rfl (by decide +kernel) ⟨Nat.le_of_ble_eq_true rfl, Nat.le_of_ble_eq_true rfl⟩) rfl rfl (M_gC) dX12_numeric_9 (rest := [_]) (Nat.le_of_ble_eq_true rfl) rfl ⟨(by first | exact Nat.le_of_ble_eq_true rfl | (dsimp only; omega)), (by first | exact Nat.le_of_ble_eq_true rfl | (dsimp only; omega))⟩) (fun q x' hx' => ?_)
  obtain ⟨rfl, rfl⟩ := hx'
  refine v_cut (pcj := 31) (lvj := [(2, .int (nI b)), (0, .ref md), (1, .int (nI k))]) (stj := []) (fun w => w = nI (nst t)) (fun w hw => ?_) (fun K => ?_)
  · skip
    subst hw
    refine v_istore_n C dX12_numeric_31 rfl (by decide) (lv' := [(3, _), (2, _), (0, _), (1, _)]) rfl ?_
    refine v_iload_n C dX12_numeric_32 (j := 0) rfl rfl ?_
    refine v_cut (pcj := 43) (lvj := [(3, .int (nI (nst t))), (2, .int (nI b)), (0, .ref md), (1, .int (nI k))]) (stj := []) (fun w => w = nI (b + nst t)) (fun w hw => ?_) (fun K => ?_)
    · skip
      subst hw
      refine v_istore C dX12_numeric_43 (by decide) (lv' := [(4, _), (3, _), (2, _), (0, _), (1, _)]) rfl ?_
      refine v_iload C dX12_numeric_45 (j := 0) rfl ?_
      refine v_istore C dX12_numeric_47 (by decide) (lv' := [(5, _), (4, _), (3, _), (2, _), (0, _), (1, _)]) rfl ?_
      obtain ⟨i, hi, hrun, hi9, hil⟩ : ∃ i : Nat, i = 0 ∧ nrun (t.drop (nst t)) 9 = i + nrun (t.drop (nst t + i)) (9 - i) ∧ i ≤ 9 ∧ nst t + i ≤ t.length := ⟨0, rfl, by simp, by decide, by omega⟩
      refine v_lv (lv' := [(5, .int (nI (b + nst t + i))), (4, _), (3, _), (2, _), (0, _), (1, _)]) (by rw [hi]; rfl) ?_
      clear hi
      induction hd : (9 - i) using Nat.strongRecOn generalizing i with | _ d ih =>
        refine v_cut0 (pcj := 88) (lvj := [(5, .int (nI (b + nst t + i))), (4, .int (nI (b + nst t))), (3, .int (nI (nst t))), (2, .int (nI b)), (0, .ref md), (1, .int (nI k))]) (stj := []) (nrun (t.drop (nst t + i)) (9 - i) = 0) (fun hw => ?_) (fun K => ?_)
        · skip
          rw [hw, Nat.add_zero] at hrun
          refine v_iload C dX12_numeric_88 (j := 0) rfl ?_
          refine v_iload C dX12_numeric_90 (j := 1) rfl ?_
          refine v_icmp_ne C 99 dX12_numeric_92 (by decide) (fun c9 => ?_) (fun c9 => ?_)
          · skip
            have c10 : i ≠ 0 := fun z => c9 (by rw [z]; rfl)
            refine v_iload C dX12_numeric_99 (j := 0) rfl ?_
            exact v_ireturn C dX12_numeric_101 hr (rfl) (Nat.le_of_ble_eq_true rfl) (Nat.le_of_ble_eq_true rfl) (⟨rfl, by unfold nlen; rw [hrun, if_neg c10, Nat.add_assoc]⟩)
          · skip
            have c10 : i = 0 := by have := congrArg Int32.toNatClampNeg c9; rw [nI_clamp (by omega), nI_clamp (by omega)] at this; omega
            refine v_iload_n C dX12_numeric_95 (j := 3) rfl rfl ?_
            refine v_goto C 101 dX12_numeric_96 (by decide) ?_
            exact v_ireturn C dX12_numeric_101 hr (rfl) (Nat.le_of_ble_eq_true rfl) (Nat.le_of_ble_eq_true rfl) (⟨rfl, by unfold nlen; rw [hrun, if_pos c10, Nat.add_zero]⟩)
        · skip
          refine v_iload C dX12_numeric_49 (j := 0) rfl ?_
          refine v_aload_n C dX12_numeric_51 (j := 4) rfl rfl ?_
          refine v_iload_n C dX12_numeric_52 (j := 5) rfl rfl ?_
          refine v_ci (v_runV C (m_to ht1 hk he) (cwV 1 C.1.2.2.2.2 gX12_numeric_X12_to rfl rfl rfl (by decide +kernel) ⟨Nat.le_of_ble_eq_true rfl, Nat.le_of_ble_eq_true rfl⟩) rfl rfl (M_gC) dX12_numeric_53 (rest := [_]) (Nat.le_of_ble_eq_true rfl) rfl ⟨(by first | exact Nat.le_of_ble_eq_true rfl | (dsimp only; omega)), (by first | exact Nat.le_of_ble_eq_true rfl | (dsimp only; omega))⟩) (fun q x' hx' => ?_)
          obtain ⟨rfl, rfl⟩ := hx'
          refine v_icmp_ge C 88 dX12_numeric_56 (by decide) (fun c1 => ?_) (fun c1 => ?_)
          · skip
            exact K (nrun_end (by have := le_of c1 (by omega) (by omega); omega))
          · skip
            have c2 : b + nst t + i < e2 := lt_ofn c1 (by omega) (by omega)
            refine v_iload C dX12_numeric_59 (j := 0) rfl ?_
            refine v_iload C dX12_numeric_61 (j := 1) rfl ?_
            refine v_bipush C dX12_numeric_63 (v := 9) (by decide) ?_
            refine v_iadd C dX12_numeric_65 ?_
            refine v_int (b := nI (b + nst t + 9)) (nI_add (b + nst t) 9) ?_
            refine v_icmp_ge C 88 dX12_numeric_66 (by decide) (fun c3 => ?_) (fun c3 => ?_)
            · skip
              have c4 := le_of c3 (by omega) (by omega)
              exact K (by rw [show 9 - i = 0 by omega]; cases h : t.drop (nst t + i) <;> rfl)
            · skip
              have c4 : i < 9 := by have := lt_ofn c3 (by omega) (by omega); omega
              refine v_aload_n C dX12_numeric_69 (j := 4) rfl rfl ?_
              refine v_get C (T := TX12) (ci := 12) (j := 1) dX12_numeric_70 wiX12_numeric_X12 rfl (by decide) wfX12_numeric_13 (fun _ h => h) (M_ref rfl (by decide)) ?_
              refine v_iload C dX12_numeric_73 (j := 0) rfl ?_
              refine v_iald C dX12_numeric_75 1 ht1 (M_arr (j := 1) rfl) (vp_in_nI (by show b + nst t + i < 60; omega) (by decide)) ?_
              refine v_int (b := t.getD (nst t + i) 0) (by rw [nI_clamp (by omega), hR.2.2 _ (by omega), str_get hs (by omega), Nat.add_assoc]) ?_
              refine v_ci (v_runS C (m_isDigit (t.getD (nst t + i) 0)) (va_cwS 1 C.1.2.2.2.2 gX12_numeric_X12_isDigit rfl rfl rfl (by decide +kernel) ⟨Nat.le_of_ble_eq_true rfl, Nat.le_of_ble_eq_true rfl⟩) rfl dX12_numeric_76 (rest := []) (Nat.le_of_ble_eq_true rfl) rfl ⟨(by first | exact Nat.le_of_ble_eq_true rfl | (dsimp only; omega)), (by first | exact Nat.le_of_ble_eq_true rfl | (dsimp only; omega))⟩) (fun q x' hx' => ?_)
              obtain ⟨rfl, rfl⟩ := hx'
              have hstp := nrun_step (s := t) (j := nst t + i) (k := 8 - i) (by omega)
              rw [show 8 - i + 1 = 9 - i by omega] at hstp
              refine v_if_eq C 88 dX12_numeric_79 (by decide) (fun c5 => ?_) (fun c5 => ?_)
              · skip
                exact K (by rw [hstp, if_neg (by rw [bI_0 c5]; decide)])
              · skip
                refine v_iinc C dX12_numeric_82 (j := 0) (v := _ + 1) rfl rfl (by decide) (lv' := [(5, _), (4, _), (3, _), (2, _), (0, _), (1, _)]) rfl ?_
                refine v_goto C 49 dX12_numeric_85 (by decide) ?_
                rw [nI_1]
                rw [if_pos (bI_1 c5)] at hstp
                exact ih (9 - (i + 1)) (by omega) (i + 1) (by rw [hrun, hstp, show 9 - (i + 1) = 8 - i by omega, Nat.add_assoc (nst t) i 1]; omega) (by omega) (by omega) rfl
    · skip
      refine v_if_eq C 42 dX12_numeric_33 (by decide) (fun c1 => ?_) (fun c1 => ?_)
      · skip
        have c2 : nst t = 0 := by have := congrArg Int32.toNatClampNeg c1; rw [nI_clamp (by omega)] at this; exact this
        refine v_iload_n C dX12_numeric_42 (j := 1) rfl rfl ?_
        exact K _ (by rw [c2]; rfl)
      · skip
        have c2 : nst t = 1 := by
            have : nst t ≠ 0 := fun z => c1 (by rw [z]; rfl)
            omega
        refine v_iload_n C dX12_numeric_36 (j := 1) rfl rfl ?_
        refine v_iconst C dX12_numeric_37 (v := 1) (by decide) ?_
        refine v_iadd C dX12_numeric_38 ?_
        refine v_goto C 43 dX12_numeric_39 (by decide) ?_
        exact K _ (by rw [c2, nI_1])
  · skip
    refine v_icmp_ge C 30 dX12_numeric_12 (by decide) (fun c1 => ?_) (fun c1 => ?_)
    · skip
      have c2 := le_of c1 (by omega) (by omega)
      refine v_iconst C dX12_numeric_30 (v := 0) (by decide) ?_
      exact K _ (by rw [nst_nil (by omega)]; rfl)
    · skip
      have c2 : b < e2 := lt_ofn c1 (by omega) (by omega)
      refine v_aload_n C dX12_numeric_15 (j := 1) rfl rfl ?_
      refine v_get C (T := TX12) (ci := 12) (j := 1) dX12_numeric_16 wiX12_numeric_X12 rfl (by decide) wfX12_numeric_13 (fun _ h => h) (M_ref rfl (by decide)) ?_
      refine v_iload_n C dX12_numeric_19 (j := 0) rfl rfl ?_
      refine v_iald C dX12_numeric_20 1 ht1 (M_arr (j := 1) rfl) (vp_in_nI (by show b < 60; omega) (by decide)) ?_
      refine v_int (b := t.getD 0 0) (by rw [nI_clamp (by omega), hR.2.2 _ (by omega), str_get hs (by omega), Nat.add_zero]) ?_
      refine v_bipush C dX12_numeric_21 (v := 45) (by decide) ?_
      refine v_icmp_ne C 30 dX12_numeric_23 (by decide) (fun c3 => ?_) (fun c3 => ?_)
      · skip
        refine v_iconst C dX12_numeric_30 (v := 0) (by decide) ?_
        exact K _ (by rw [nst_at (by omega), if_neg c3]; rfl)
      · skip
        refine v_iconst C dX12_numeric_26 (v := 1) (by decide) ?_
        refine v_goto C 31 dX12_numeric_27 (by decide) ?_
        exact K _ (by rw [nst_at (by omega), if_pos c3]; rfl)
set_option maxRecDepth 100000 in
set_option maxHeartbeats 8000000 in
theorem m_isNumeric (ht1 : tys[1]? = some (cI, .int)) (hR : mRec I M r) {k b e2 : Nat} {t : List Int32} (hk : k ≤ 12) (hb : bOf I M k = nI b) (he : eOf I M k = nI e2) (hs : str r b e2 t) : ct D tys z0 A (picM D cI cZ md ad A) l yX12_isNumeric wsX12_isNumeric (rmL 3 67) [.ref md, .int (nI k)] (I, M) (qI (picM D cI cZ md ad A) A (fun q x => x = (I, M) ∧ q = bI (isNum t))) := by
  have hl := str_len hs
  have h60 := hR.2.1
  have hbe := hs.1
  have her := hs.2.1
  have hnl := nlen_le t
  refine ct_of RX12 (by decide +kernel) rfl rfl (Nat.le_of_ble_eq_true rfl) ?_
  intro p e s m below meth c C hr hm
  refine v_lv (lv' := [(0, _), (1, _)]) rfl ?_
  refine v_aload_n C dX12_isNumeric_0 (j := 0) rfl rfl ?_
  refine v_iload_n C dX12_isNumeric_1 (j := 1) rfl rfl ?_
  refine v_ci (v_runV C (m_numeric0 ht1 hR hk hb he hs) (cwV 1 C.1.2.2.2.2 gX12_isNumeric_X12_numeric rfl rfl rfl (by decide +kernel) ⟨Nat.le_of_ble_eq_true rfl, Nat.le_of_ble_eq_true rfl⟩) rfl rfl (M_gC) dX12_isNumeric_2 (rest := []) (Nat.le_of_ble_eq_true rfl) rfl ⟨(by first | exact Nat.le_of_ble_eq_true rfl | (dsimp only; omega)), (by first | exact Nat.le_of_ble_eq_true rfl | (dsimp only; omega))⟩) (fun q x' hx' => ?_)
  obtain ⟨rfl, rfl⟩ := hx'
  refine v_aload_n C dX12_isNumeric_5 (j := 0) rfl rfl ?_
  refine v_iload_n C dX12_isNumeric_6 (j := 1) rfl rfl ?_
  refine v_ci (v_runV C (m_from ht1 hk hb) (cwV 1 C.1.2.2.2.2 gX12_isNumeric_X12_from rfl rfl rfl (by decide +kernel) ⟨Nat.le_of_ble_eq_true rfl, Nat.le_of_ble_eq_true rfl⟩) rfl rfl (M_gC) dX12_isNumeric_7 (rest := [_]) (Nat.le_of_ble_eq_true rfl) rfl ⟨(by first | exact Nat.le_of_ble_eq_true rfl | (dsimp only; omega)), (by first | exact Nat.le_of_ble_eq_true rfl | (dsimp only; omega))⟩) (fun q x' hx' => ?_)
  obtain ⟨rfl, rfl⟩ := hx'
  refine v_icmp_le C 30 dX12_isNumeric_10 (by decide) (fun c1 => ?_) (fun c1 => ?_)
  · skip
    have c2 := le_of c1 (by omega) (by omega)
    refine v_iconst C dX12_isNumeric_30 (v := 0) (by decide) ?_
    exact v_ireturn C dX12_isNumeric_31 hr (rfl) (Nat.le_of_ble_eq_true rfl) (Nat.le_of_ble_eq_true rfl) (⟨rfl, bI_f (by rw [isNum_eq, decide_eq_false (by omega)]; rfl)⟩)
  · skip
    have c2 := lt_ofn c1 (by omega) (by omega)
    refine v_aload_n C dX12_isNumeric_13 (j := 0) rfl rfl ?_
    refine v_iload_n C dX12_isNumeric_14 (j := 1) rfl rfl ?_
    refine v_ci (v_runV C (m_numeric0 ht1 hR hk hb he hs) (cwV 1 C.1.2.2.2.2 gX12_isNumeric_X12_numeric rfl rfl rfl (by decide +kernel) ⟨Nat.le_of_ble_eq_true rfl, Nat.le_of_ble_eq_true rfl⟩) rfl rfl (M_gC) dX12_isNumeric_15 (rest := []) (Nat.le_of_ble_eq_true rfl) rfl ⟨(by first | exact Nat.le_of_ble_eq_true rfl | (dsimp only; omega)), (by first | exact Nat.le_of_ble_eq_true rfl | (dsimp only; omega))⟩) (fun q x' hx' => ?_)
    obtain ⟨rfl, rfl⟩ := hx'
    refine v_aload_n C dX12_isNumeric_18 (j := 0) rfl rfl ?_
    refine v_iload_n C dX12_isNumeric_19 (j := 1) rfl rfl ?_
    refine v_ci (v_runV C (m_to ht1 hk he) (cwV 1 C.1.2.2.2.2 gX12_isNumeric_X12_to rfl rfl rfl (by decide +kernel) ⟨Nat.le_of_ble_eq_true rfl, Nat.le_of_ble_eq_true rfl⟩) rfl rfl (M_gC) dX12_isNumeric_20 (rest := [_]) (Nat.le_of_ble_eq_true rfl) rfl ⟨(by first | exact Nat.le_of_ble_eq_true rfl | (dsimp only; omega)), (by first | exact Nat.le_of_ble_eq_true rfl | (dsimp only; omega))⟩) (fun q x' hx' => ?_)
    obtain ⟨rfl, rfl⟩ := hx'
    refine v_icmp_ne C 30 dX12_isNumeric_23 (by decide) (fun c3 => ?_) (fun c3 => ?_)
    · skip
      refine v_iconst C dX12_isNumeric_30 (v := 0) (by decide) ?_
      exact v_ireturn C dX12_isNumeric_31 hr (rfl) (Nat.le_of_ble_eq_true rfl) (Nat.le_of_ble_eq_true rfl) (⟨rfl, bI_f (by rw [isNum_eq, decide_eq_false (p := nlen t = t.length) (fun z => c3 (by rw [z, hl]; congr 1; omega)), Bool.and_false])⟩)
    · skip
      have c4 : b + nlen t = e2 := by have := congrArg Int32.toNatClampNeg c3; rw [nI_clamp (by omega), nI_clamp (by omega)] at this; exact this
      refine v_iconst C dX12_isNumeric_26 (v := 1) (by decide) ?_
      refine v_goto C 31 dX12_isNumeric_27 (by decide) ?_
      exact v_ireturn C dX12_isNumeric_31 hr (rfl) (Nat.le_of_ble_eq_true rfl) (Nat.le_of_ble_eq_true rfl) (⟨rfl, bI_t (by rw [isNum_eq, decide_eq_true (by omega), decide_eq_true (by omega)]; rfl)⟩)
set_option maxRecDepth 100000 in
set_option maxHeartbeats 8000000 in
theorem m_numberOf (ht1 : tys[1]? = some (cI, .int)) (hR : mRec I M r) {k b e2 : Nat} {t : List Int32} (hk : k ≤ 12) (hb : bOf I M k = nI b) (he : eOf I M k = nI e2) (hs : str r b e2 t) : ct D tys z0 A (picM D cI cZ md ad A) l yX12_numberOf wsX12_numberOf (rmL 3 67) [.ref md, .int (nI k)] (I, M) (qI (picM D cI cZ md ad A) A (fun q x => x = (I, M) ∧ q = num t)) := by
  have hl := str_len hs
  have h60 := hR.2.1
  have hbe := hs.1
  have her := hs.2.1
  have hst := nst_le t
  have hnl := nlen_le t
  have hnr := nrun_le (t.drop (nst t)) 9
  rw [List.length_drop] at hnr
  refine ct_of RX12 (by decide +kernel) rfl rfl (Nat.le_of_ble_eq_true rfl) ?_
  intro p e s m below meth c C hr hm
  refine v_lv (lv' := [(0, _), (1, _)]) rfl ?_
  refine v_aload_n C dX12_numberOf_0 (j := 0) rfl rfl ?_
  refine v_iload_n C dX12_numberOf_1 (j := 1) rfl rfl ?_
  refine v_ci (v_runV C (m_from ht1 hk hb) (cwV 1 C.1.2.2.2.2 gX12_numberOf_X12_from rfl rfl rfl (by decide +kernel) ⟨Nat.le_of_ble_eq_true rfl, Nat.le_of_ble_eq_true rfl⟩) rfl rfl (M_gC) dX12_numberOf_2 (rest := []) (Nat.le_of_ble_eq_true rfl) rfl ⟨(by first | exact Nat.le_of_ble_eq_true rfl | (dsimp only; omega)), (by first | exact Nat.le_of_ble_eq_true rfl | (dsimp only; omega))⟩) (fun q x' hx' => ?_)
  obtain ⟨rfl, rfl⟩ := hx'
  refine v_istore_n C dX12_numberOf_5 rfl (by decide) (lv' := [(2, _), (0, _), (1, _)]) rfl ?_
  refine v_iload_n C dX12_numberOf_6 (j := 0) rfl rfl ?_
  refine v_aload_n C dX12_numberOf_7 (j := 1) rfl rfl ?_
  refine v_iload_n C dX12_numberOf_8 (j := 2) rfl rfl ?_
  refine v_ci (v_runV C (m_to ht1 hk he) (cwV 1 C.1.2.2.2.2 gX12_numberOf_X12_to rfl rfl rfl (by decide +kernel) ⟨Nat.le_of_ble_eq_true rfl, Nat.le_of_ble_eq_true rfl⟩) rfl rfl (M_gC) dX12_numberOf_9 (rest := [_]) (Nat.le_of_ble_eq_true rfl) rfl ⟨(by first | exact Nat.le_of_ble_eq_true rfl | (dsimp only; omega)), (by first | exact Nat.le_of_ble_eq_true rfl | (dsimp only; omega))⟩) (fun q x' hx' => ?_)
  obtain ⟨rfl, rfl⟩ := hx'
  refine v_cut (pcj := 31) (lvj := [(2, .int (nI b)), (0, .ref md), (1, .int (nI k))]) (stj := []) (fun w => w = nI (nst t)) (fun w hw => ?_) (fun K => ?_)
  · skip
    subst hw
    refine v_istore_n C dX12_numberOf_31 rfl (by decide) (lv' := [(3, _), (2, _), (0, _), (1, _)]) rfl ?_
    refine v_iconst C dX12_numberOf_32 (v := 0) (by decide) ?_
    refine v_istore C dX12_numberOf_33 (by decide) (lv' := [(4, _), (3, _), (2, _), (0, _), (1, _)]) rfl ?_
    refine v_iload_n C dX12_numberOf_35 (j := 1) rfl rfl ?_
    refine v_cut (pcj := 46) (lvj := [(4, .int 0), (3, .int (nI (nst t))), (2, .int (nI b)), (0, .ref md), (1, .int (nI k))]) (stj := []) (fun w => w = nI (b + nst t)) (fun w hw => ?_) (fun K => ?_)
    · skip
      subst hw
      refine v_istore C dX12_numberOf_46 (by decide) (lv' := [(5, _), (4, _), (3, _), (2, _), (0, _), (1, _)]) rfl ?_
      obtain ⟨i, s9, hi, hs9, hv, hil⟩ : ∃ (i : Nat) (s9 : Int32), i = 0 ∧ s9 = 0 ∧ nval (t.drop (nst t)) (nrun (t.drop (nst t)) 9) 0 = nval (t.drop (nst t + i)) (nrun (t.drop (nst t)) 9 - i) s9 ∧ i ≤ nrun (t.drop (nst t)) 9 := ⟨0, 0, rfl, rfl, rfl, Nat.zero_le _⟩
      refine v_lv (lv' := [(5, .int (nI (b + nst t + i))), (4, .int s9), (3, _), (2, _), (0, _), (1, _)]) (by rw [hi, hs9]; rfl) ?_
      clear hi hs9
      induction hd : (nrun (t.drop (nst t)) 9 - i) using Nat.strongRecOn generalizing i s9 with | _ d ih =>
        refine v_iload C dX12_numberOf_48 (j := 0) rfl ?_
        refine v_aload_n C dX12_numberOf_50 (j := 4) rfl rfl ?_
        refine v_iload_n C dX12_numberOf_51 (j := 5) rfl rfl ?_
        refine v_ci (v_runV C (m_numeric0 ht1 hR hk hb he hs) (cwV 1 C.1.2.2.2.2 gX12_numberOf_X12_numeric rfl rfl rfl (by decide +kernel) ⟨Nat.le_of_ble_eq_true rfl, Nat.le_of_ble_eq_true rfl⟩) rfl rfl (M_gC) dX12_numberOf_52 (rest := [_]) (Nat.le_of_ble_eq_true rfl) rfl ⟨(by first | exact Nat.le_of_ble_eq_true rfl | (dsimp only; omega)), (by first | exact Nat.le_of_ble_eq_true rfl | (dsimp only; omega))⟩) (fun q x' hx' => ?_)
        obtain ⟨rfl, rfl⟩ := hx'
        refine v_icmp_ge C 82 dX12_numberOf_55 (by decide) (fun c1 => ?_) (fun c1 => ?_)
        · skip
          have c2 := le_of c1 (by omega) (by omega)
          have c3 : i = nrun (t.drop (nst t)) 9 := by
              unfold nlen at c2
              split at c2 <;> omega
          rw [c3, Nat.sub_self, nval_0] at hv
          refine v_iload_n C dX12_numberOf_82 (j := 2) rfl rfl ?_
          refine v_if_eq C 92 dX12_numberOf_83 (by decide) (fun c4 => ?_) (fun c4 => ?_)
          · skip
            have c5 : nst t = 0 := by have := congrArg Int32.toNatClampNeg c4; rw [nI_clamp (by omega)] at this; exact this
            refine v_iload C dX12_numberOf_92 (j := 1) rfl ?_
            exact v_ireturn C dX12_numberOf_94 hr (rfl) (Nat.le_of_ble_eq_true rfl) (Nat.le_of_ble_eq_true rfl) (⟨rfl, by unfold num; rw [if_neg (by omega), hv]⟩)
          · skip
            have c5 : nst t = 1 := by
                have : nst t ≠ 0 := fun z => c4 (by rw [z]; rfl)
                omega
            refine v_iload C dX12_numberOf_86 (j := 1) rfl ?_
            refine v_ineg C dX12_numberOf_88 ?_
            refine v_goto C 94 dX12_numberOf_89 (by decide) ?_
            exact v_ireturn C dX12_numberOf_94 hr (rfl) (Nat.le_of_ble_eq_true rfl) (Nat.le_of_ble_eq_true rfl) (⟨rfl, by unfold num; rw [if_pos c5, hv]⟩)
        · skip
          have c2 := lt_ofn c1 (by omega) (by omega)
          have c3 : i < nrun (t.drop (nst t)) 9 := by
              unfold nlen at c2
              split at c2 <;> omega
          refine v_bipush C dX12_numberOf_58 (v := 10) (by decide) ?_
          refine v_iload C dX12_numberOf_60 (j := 1) rfl ?_
          refine v_imul C dX12_numberOf_62 ?_
          refine v_aload_n C dX12_numberOf_63 (j := 4) rfl rfl ?_
          refine v_get C (T := TX12) (ci := 12) (j := 1) dX12_numberOf_64 wiX12_numberOf_X12 rfl (by decide) wfX12_numberOf_13 (fun _ h => h) (M_ref rfl (by decide)) ?_
          refine v_iload C dX12_numberOf_67 (j := 0) rfl ?_
          refine v_iald C dX12_numberOf_69 1 ht1 (M_arr (j := 1) rfl) (vp_in_nI (by show b + nst t + i < 60; omega) (by decide)) ?_
          refine v_int (b := t.getD (nst t + i) 0) (by rw [nI_clamp (by omega), hR.2.2 _ (by omega), str_get hs (by omega), Nat.add_assoc]) ?_
          refine v_iadd C dX12_numberOf_70 ?_
          refine v_bipush C dX12_numberOf_71 (v := 48) (by decide) ?_
          refine v_isub C dX12_numberOf_73 ?_
          rw [mul10]
          refine v_istore C dX12_numberOf_74 (by decide) (lv' := [(4, _), (5, _), (3, _), (2, _), (0, _), (1, _)]) rfl ?_
          refine v_iinc C dX12_numberOf_76 (j := 1) (v := _ + 1) rfl rfl (by decide) (lv' := [(5, _), (4, _), (3, _), (2, _), (0, _), (1, _)]) rfl ?_
          refine v_goto C 48 dX12_numberOf_79 (by decide) ?_
          rw [nI_1]
          have hvs := nval_step (s := t) (j := nst t + i) (k := nrun (t.drop (nst t)) 9 - (i + 1)) (a := s9) (by omega)
          rw [show nrun (t.drop (nst t)) 9 - (i + 1) + 1 = nrun (t.drop (nst t)) 9 - i by omega] at hvs
          refine v_lv (lv' := [(5, .int (nI (b + nst t + (i + 1)))), (4, .int (s9 * 10 + (t.getD (nst t + i) 0 - 48))), (3, _), (2, _), (0, _), (1, _)]) rfl ?_
          exact ih (nrun (t.drop (nst t)) 9 - (i + 1)) (by omega) (i + 1) _ (by rw [hv, hvs, Nat.add_assoc (nst t) i 1]) (by omega) rfl
    · skip
      refine v_if_eq C 45 dX12_numberOf_36 (by decide) (fun c1 => ?_) (fun c1 => ?_)
      · skip
        have c2 : nst t = 0 := by have := congrArg Int32.toNatClampNeg c1; rw [nI_clamp (by omega)] at this; exact this
        refine v_iload_n C dX12_numberOf_45 (j := 2) rfl rfl ?_
        exact K _ (by rw [c2]; rfl)
      · skip
        have c2 : nst t = 1 := by
            have : nst t ≠ 0 := fun z => c1 (by rw [z]; rfl)
            omega
        refine v_iload_n C dX12_numberOf_39 (j := 2) rfl rfl ?_
        refine v_iconst C dX12_numberOf_40 (v := 1) (by decide) ?_
        refine v_iadd C dX12_numberOf_41 ?_
        refine v_goto C 46 dX12_numberOf_42 (by decide) ?_
        exact K _ (by rw [c2, nI_1])
  · skip
    refine v_icmp_ge C 30 dX12_numberOf_12 (by decide) (fun c1 => ?_) (fun c1 => ?_)
    · skip
      have c2 := le_of c1 (by omega) (by omega)
      refine v_iconst C dX12_numberOf_30 (v := 0) (by decide) ?_
      exact K _ (by rw [nst_nil (by omega)]; rfl)
    · skip
      have c2 : b < e2 := lt_ofn c1 (by omega) (by omega)
      refine v_aload_n C dX12_numberOf_15 (j := 1) rfl rfl ?_
      refine v_get C (T := TX12) (ci := 12) (j := 1) dX12_numberOf_16 wiX12_numberOf_X12 rfl (by decide) wfX12_numberOf_13 (fun _ h => h) (M_ref rfl (by decide)) ?_
      refine v_iload_n C dX12_numberOf_19 (j := 0) rfl rfl ?_
      refine v_iald C dX12_numberOf_20 1 ht1 (M_arr (j := 1) rfl) (vp_in_nI (by show b < 60; omega) (by decide)) ?_
      refine v_int (b := t.getD 0 0) (by rw [nI_clamp (by omega), hR.2.2 _ (by omega), str_get hs (by omega), Nat.add_zero]) ?_
      refine v_bipush C dX12_numberOf_21 (v := 45) (by decide) ?_
      refine v_icmp_ne C 30 dX12_numberOf_23 (by decide) (fun c3 => ?_) (fun c3 => ?_)
      · skip
        refine v_iconst C dX12_numberOf_30 (v := 0) (by decide) ?_
        exact K _ (by rw [nst_at (by omega), if_neg c3]; rfl)
      · skip
        refine v_iconst C dX12_numberOf_26 (v := 1) (by decide) ?_
        refine v_goto C 31 dX12_numberOf_27 (by decide) ?_
        exact K _ (by rw [nst_at (by omega), if_pos c3]; rfl)
set_option maxRecDepth 100000 in
set_option maxHeartbeats 8000000 in
theorem m_isSame (ht1 : tys[1]? = some (cI, .int)) (hR : mRec I M r) {k b e2 : Nat} {t : List Int32} (hk : k ≤ 12) (hb : bOf I M k = nI b) (he : eOf I M k = nI e2) (hs : str r b e2 t) (n0 : Int32) : ct D tys z0 A (picM D cI cZ md ad A) l yX12_isSame wsX12_isSame (rmL 4 92) [.ref md, .int (nI k), .int n0] (I, M) (qI (picM D cI cZ md ad A) A (fun q x => x = (I, M) ∧ q = bI (sameN t n0))) := by
  refine ct_of RX12 (by decide +kernel) rfl rfl (Nat.le_of_ble_eq_true rfl) ?_
  intro p e s m below meth c C hr hm
  refine v_lv (lv' := [(0, _), (1, _), (2, _)]) rfl ?_
  refine v_aload_n C dX12_isSame_0 (j := 0) rfl rfl ?_
  refine v_iload_n C dX12_isSame_1 (j := 1) rfl rfl ?_
  refine v_ci (v_runV C (m_isNumeric ht1 hR hk hb he hs) (cwV 1 C.1.2.2.2.2 gX12_isSame_X12_isNumeric rfl rfl rfl (by decide +kernel) ⟨Nat.le_of_ble_eq_true rfl, Nat.le_of_ble_eq_true rfl⟩) rfl rfl (M_gC) dX12_isSame_2 (rest := []) (Nat.le_of_ble_eq_true rfl) rfl ⟨(by first | exact Nat.le_of_ble_eq_true rfl | (dsimp only; omega)), (by first | exact Nat.le_of_ble_eq_true rfl | (dsimp only; omega))⟩) (fun q x' hx' => ?_)
  obtain ⟨rfl, rfl⟩ := hx'
  refine v_if_eq C 21 dX12_isSame_5 (by decide) (fun c1 => ?_) (fun c1 => ?_)
  · skip
    refine v_iconst C dX12_isSame_21 (v := 0) (by decide) ?_
    exact v_ireturn C dX12_isSame_22 hr (rfl) (Nat.le_of_ble_eq_true rfl) (Nat.le_of_ble_eq_true rfl) (⟨rfl, bI_f (by unfold sameN; rw [bI_0 c1]; rfl)⟩)
  · skip
    refine v_aload_n C dX12_isSame_8 (j := 0) rfl rfl ?_
    refine v_iload_n C dX12_isSame_9 (j := 1) rfl rfl ?_
    refine v_ci (v_runV C (m_numberOf ht1 hR hk hb he hs) (cwV 1 C.1.2.2.2.2 gX12_isSame_X12_numberOf rfl rfl rfl (by decide +kernel) ⟨Nat.le_of_ble_eq_true rfl, Nat.le_of_ble_eq_true rfl⟩) rfl rfl (M_gC) dX12_isSame_10 (rest := []) (Nat.le_of_ble_eq_true rfl) rfl ⟨(by first | exact Nat.le_of_ble_eq_true rfl | (dsimp only; omega)), (by first | exact Nat.le_of_ble_eq_true rfl | (dsimp only; omega))⟩) (fun q x' hx' => ?_)
    obtain ⟨rfl, rfl⟩ := hx'
    refine v_iload_n C dX12_isSame_13 (j := 2) rfl rfl ?_
    refine v_icmp_ne C 21 dX12_isSame_14 (by decide) (fun c2 => ?_) (fun c2 => ?_)
    · skip
      refine v_iconst C dX12_isSame_21 (v := 0) (by decide) ?_
      exact v_ireturn C dX12_isSame_22 hr (rfl) (Nat.le_of_ble_eq_true rfl) (Nat.le_of_ble_eq_true rfl) (⟨rfl, bI_f (by unfold sameN; rw [bI_1 c1, decide_eq_false c2]; rfl)⟩)
    · skip
      refine v_iconst C dX12_isSame_17 (v := 1) (by decide) ?_
      refine v_goto C 22 dX12_isSame_18 (by decide) ?_
      exact v_ireturn C dX12_isSame_22 hr (rfl) (Nat.le_of_ble_eq_true rfl) (Nat.le_of_ble_eq_true rfl) (⟨rfl, bI_t (by unfold sameN; rw [bI_1 c1, decide_eq_true c2]; rfl)⟩)
end MN
