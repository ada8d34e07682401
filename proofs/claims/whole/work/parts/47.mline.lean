/-! ===== the reference: key, line ===== -/
theorem wfX12_key_57 : Cond.fieldLink RX12 57 "FieldScribeModel" (TX12 22).2.1 (TX12 22).2.2.1 ∈ wsX12_key := by decide +kernel
theorem wiX12_key_X12 : ∀ w ∈ u_ws RX12 TX12 34, w ∈ wsX12_key := by decide +kernel
theorem wfX12_key_193 : Cond.fieldLink RX12 193 "FieldScribeModel" (TX12 21).2.1 (TX12 21).2.2.1 ∈ wsX12_key := by decide +kernel
theorem wfX12_key_60 : Cond.fieldLink RX12 60 "FieldScribeModel" (TX12 23).2.1 (TX12 23).2.2.1 ∈ wsX12_key := by decide +kernel
theorem wfX12_line_66 : Cond.fieldLink RX12 66 "FieldScribeModel" (TX12 26).2.1 (TX12 26).2.2.1 ∈ wsX12_line := by decide +kernel
theorem wiX12_line_X12 : ∀ w ∈ u_ws RX12 TX12 34, w ∈ wsX12_line := by decide +kernel
theorem wfX12_line_199 : Cond.fieldLink RX12 199 "FieldScribeModel" (TX12 25).2.1 (TX12 25).2.2.1 ∈ wsX12_line := by decide +kernel
theorem wfX12_line_69 : Cond.fieldLink RX12 69 "FieldScribeModel" (TX12 27).2.1 (TX12 27).2.2.1 ∈ wsX12_line := by decide +kernel
section MLI
variable {l : Launch} {D : va_G} {tys : List (ClassId × FieldType)} {z0 : Nat} {A : Nat → Prop} {cI cZ : ClassId} {md : Nat} {ad : Nat → Nat} {I : Nat → Int32} {M : Nat → Nat → Int32} {ts : List (List Int32)}
theorem ch_i2c {c : Int32} (h : ch c) : (c.toUInt32 % 65536).toInt32 = c := by
  unfold ch narrow at h
  simpa using h
set_option maxRecDepth 100000 in
set_option maxHeartbeats 8000000 in
theorem m_key (ht1 : tys[1]? = some (cI, .int)) (hT : mTs 21 23 22 I M ts) (hN : ts.length ≤ 20) (z p0 : Int32) (hch : ∀ i, i < ts.length → chs (ts.getD i [])) : ct D tys z0 A (picM D cI cZ md ad A) l yX12_key wsX12_key (rmL 1 22) [.ref md, .int z, .int p0] (I, M) (qI (picM D cI cZ md ad A) A (fun q x => if (0 ≤ z ∧ z < nI ts.length) ∧ 0 ≤ p0 ∧ p0 < nI (ts.getD z.toNatClampNeg []).length then x = (va_up I 33 0, M) ∧ q = atT (ts.getD z.toNatClampNeg []) p0 else x = (va_up I 33 1, M))) := by
  obtain ⟨h21, hts⟩ := hT
  have hin := isIn_n (z := z) (n := ts.length) (by omega)
  refine ct_of RX12 (by decide +kernel) rfl rfl (Nat.le_of_ble_eq_true rfl) ?_
  intro p e s m below meth c C hr hm
  refine v_lv (lv' := [(0, _), (1, _), (2, _)]) rfl ?_
  refine v_cut (pcj := 35) (lvj := [(0, .ref md), (1, .int z), (2, .int p0)]) (stj := []) (fun w => w = bI (decide ((0 ≤ z ∧ z < nI ts.length) ∧ 0 ≤ p0 ∧ p0 < nI (ts.getD z.toNatClampNeg []).length))) (fun w hw => ?_) (fun K => ?_)
  · skip
    subst hw
    refine v_istore_n C dX12_key_35 rfl (by decide) (lv' := [(3, _), (0, _), (1, _), (2, _)]) rfl ?_
    refine v_aload_n C dX12_key_36 (j := 1) rfl rfl ?_
    refine v_iload_n C dX12_key_37 (j := 0) rfl rfl ?_
    refine v_if_eq C 45 dX12_key_38 (by decide) (fun c1 => ?_) (fun c1 => ?_)
    · skip
      have hz := of_decide_eq_false (bI_0 c1)
      refine v_iconst C dX12_key_45 (v := 1) (by decide) ?_
      refine v_ci (v_runV C (m_fails 1) (cwV 1 C.1.2.2.2.2 gX12_key_X12_fails rfl rfl rfl (by decide +kernel) ⟨Nat.le_of_ble_eq_true rfl, Nat.le_of_ble_eq_true rfl⟩) rfl rfl (M_gC) dX12_key_46 (rest := []) (Nat.le_of_ble_eq_true rfl) rfl ⟨(by first | exact Nat.le_of_ble_eq_true rfl | (dsimp only; omega)), (by first | exact Nat.le_of_ble_eq_true rfl | (dsimp only; omega))⟩) (fun q x' hx' => ?_)
      obtain ⟨rfl, rfl⟩ := hx'
      refine v_if_eq C 57 dX12_key_49 (by decide) (fun c2 => absurd c2 (by intro; exact absurd c2 (by decide))) (fun c2 => ?_)
      refine v_bipush C dX12_key_52 (v := 32) (by decide) ?_
      refine v_goto C 69 dX12_key_54 (by decide) ?_
      exact v_ireturn C dX12_key_69 hr (rfl) (Nat.le_of_ble_eq_true rfl) (Nat.le_of_ble_eq_true rfl) (by rw [if_neg hz])
    · skip
      have hz := of_decide_eq_true (bI_1 c1)
      obtain ⟨k, hk, rfl⟩ := nI_of (Int32.not_lt.mpr hz.1.1)
      have hkl : k < ts.length := (nI_ltI hk (by omega)).mp hz.1.2
      have hkc : (nI k).toNatClampNeg = k := nI_clamp hk
      rw [hkc] at hz ⊢
      obtain ⟨k1, k2, k3⟩ := hts k hkl
      obtain ⟨p9, hp9, rfl⟩ := nI_of (Int32.not_lt.mpr hz.2.1)
      have hpl : p9 < (ts.getD k []).length := (nI_ltI hp9 (by omega)).mp hz.2.2
      refine v_iconst C dX12_key_41 (v := 0) (by decide) ?_
      refine v_goto C 46 dX12_key_42 (by decide) ?_
      refine v_ci (v_runV C (m_fails 0) (cwV 1 C.1.2.2.2.2 gX12_key_X12_fails rfl rfl rfl (by decide +kernel) ⟨Nat.le_of_ble_eq_true rfl, Nat.le_of_ble_eq_true rfl⟩) rfl rfl (M_gC) dX12_key_46 (rest := []) (Nat.le_of_ble_eq_true rfl) rfl ⟨(by first | exact Nat.le_of_ble_eq_true rfl | (dsimp only; omega)), (by first | exact Nat.le_of_ble_eq_true rfl | (dsimp only; omega))⟩) (fun q x' hx' => ?_)
      obtain ⟨rfl, rfl⟩ := hx'
      refine v_if_eq C 57 dX12_key_49 (by decide) (fun c2 => ?_) (fun c2 => absurd c2 (by intro h; exact h (by decide)))
      refine v_aload_n C dX12_key_57 (j := 1) rfl rfl ?_
      refine v_get C (T := TX12) (ci := 12) (j := 22) dX12_key_58 wiX12_key_X12 rfl (by decide) wfX12_key_57 (fun _ h => h) (M_ref rfl (by decide)) ?_
      refine v_bipush C dX12_key_61 (v := 60) (by decide) ?_
      refine v_iload_n C dX12_key_63 (j := 2) rfl rfl ?_
      refine v_imul C dX12_key_64 ?_
      refine v_iload_n C dX12_key_65 (j := 3) rfl rfl ?_
      refine v_iadd C dX12_key_66 ?_
      refine v_int (b := nI (60 * k + p9)) (nI_60 k p9) ?_
      refine v_iald C dX12_key_67 1 ht1 (M_arr (j := 22) rfl) (vp_in_nI (by show 60 * k + p9 < 1200; omega) (by decide)) ?_
      refine v_int (b := (ts.getD k []).getD p9 0) (by rw [nI_clamp (by omega)]; exact k3 p9 hpl) ?_
      have hc9 := chs_getD (hch k hkl) hpl
      refine v_i2c C dX12_key_68 ?_
      refine v_int (b := (ts.getD k []).getD p9 0) (ch_i2c hc9) ?_
      exact v_ireturn C dX12_key_69 hr (hc9) (Nat.le_of_ble_eq_true rfl) (Nat.le_of_ble_eq_true rfl) (by rw [if_pos hz]; exact ⟨rfl, by unfold atT; rw [if_pos ⟨hz.2.1, hz.2.2⟩, nI_clamp hp9]⟩)
  · skip
    refine v_iload_n C dX12_key_0 (j := 1) rfl rfl ?_
    refine v_iconst C dX12_key_1 (v := 0) (by decide) ?_
    refine v_aload_n C dX12_key_2 (j := 0) rfl rfl ?_
    refine v_get C (T := TX12) (ci := 12) (j := 21) dX12_key_3 wiX12_key_X12 rfl (by decide) wfX12_key_193 (fun _ h => h) (M_int rfl (by decide)) ?_
    refine v_iconst C dX12_key_6 (v := 1) (by decide) ?_
    refine v_isub C dX12_key_7 ?_
    rw [h21]
    refine v_ci (v_runS C (m_isIn z 0 (nI ts.length - 1)) (va_cwS 3 C.1.2.2.2.2 gX12_key_X12_isIn rfl rfl rfl (by decide +kernel) ⟨Nat.le_of_ble_eq_true rfl, Nat.le_of_ble_eq_true rfl⟩) rfl dX12_key_8 (rest := []) (Nat.le_of_ble_eq_true rfl) rfl ⟨(by first | exact Nat.le_of_ble_eq_true rfl | (dsimp only; omega)), (by first | exact Nat.le_of_ble_eq_true rfl | (dsimp only; omega))⟩) (fun q x' hx' => ?_)
    obtain ⟨rfl, rfl⟩ := hx'
    refine v_if_eq C 34 dX12_key_11 (by decide) (fun c1 => ?_) (fun c1 => ?_)
    · skip
      refine v_iconst C dX12_key_34 (v := 0) (by decide) ?_
      exact K _ (bI_f (decide_eq_false (fun h => by have := hin.mpr h.1; rw [bI_0 c1] at this; cases this)))
    · skip
      have hz := hin.mp (bI_1 c1)
      obtain ⟨k, hk, rfl⟩ := nI_of (Int32.not_lt.mpr hz.1)
      have hkl : k < ts.length := (nI_ltI hk (by omega)).mp hz.2
      have hkc : (nI k).toNatClampNeg = k := nI_clamp hk
      rw [hkc] at K
      obtain ⟨k1, k2, k3⟩ := hts k hkl
      have hin2 := isIn_n (z := p0) (n := (ts.getD k []).length) (by omega)
      refine v_iload_n C dX12_key_14 (j := 2) rfl rfl ?_
      refine v_iconst C dX12_key_15 (v := 0) (by decide) ?_
      refine v_aload_n C dX12_key_16 (j := 0) rfl rfl ?_
      refine v_get C (T := TX12) (ci := 12) (j := 23) dX12_key_17 wiX12_key_X12 rfl (by decide) wfX12_key_60 (fun _ h => h) (M_ref rfl (by decide)) ?_
      refine v_iload_n C dX12_key_20 (j := 1) rfl rfl ?_
      refine v_iald C dX12_key_21 1 ht1 (M_arr (j := 23) rfl) (vp_in_nI (by show k < 20; omega) (by decide)) ?_
      rw [hkc, k1]
      refine v_iconst C dX12_key_22 (v := 1) (by decide) ?_
      refine v_isub C dX12_key_23 ?_
      refine v_ci (v_runS C (m_isIn p0 0 (nI (ts.getD k []).length - 1)) (va_cwS 3 C.1.2.2.2.2 gX12_key_X12_isIn rfl rfl rfl (by decide +kernel) ⟨Nat.le_of_ble_eq_true rfl, Nat.le_of_ble_eq_true rfl⟩) rfl dX12_key_24 (rest := []) (Nat.le_of_ble_eq_true rfl) rfl ⟨(by first | exact Nat.le_of_ble_eq_true rfl | (dsimp only; omega)), (by first | exact Nat.le_of_ble_eq_true rfl | (dsimp only; omega))⟩) (fun q x' hx' => ?_)
      obtain ⟨rfl, rfl⟩ := hx'
      refine v_if_eq C 34 dX12_key_27 (by decide) (fun c2 => ?_) (fun c2 => ?_)
      · skip
        refine v_iconst C dX12_key_34 (v := 0) (by decide) ?_
        exact K _ (bI_f (decide_eq_false (fun h => by have := hin2.mpr h.2; rw [bI_0 c2] at this; cases this)))
      · skip
        refine v_iconst C dX12_key_30 (v := 1) (by decide) ?_
        refine v_goto C 35 dX12_key_31 (by decide) ?_
        exact K _ (bI_t (decide_eq_true ⟨hz, hin2.mp (bI_1 c2)⟩))
set_option maxRecDepth 100000 in
set_option maxHeartbeats 8000000 in
theorem m_line (ht1 : tys[1]? = some (cI, .int)) (hT : mTs 25 27 26 I M ts) (hN : ts.length ≤ 40) (z p0 : Int32) (hch : ∀ i, i < ts.length → chs (ts.getD i [])) : ct D tys z0 A (picM D cI cZ md ad A) l yX12_line wsX12_line (rmL 1 22) [.ref md, .int z, .int p0] (I, M) (qI (picM D cI cZ md ad A) A (fun q x => if (0 ≤ z ∧ z < nI ts.length) ∧ 0 ≤ p0 ∧ p0 < nI (ts.getD z.toNatClampNeg []).length then x = (va_up I 33 0, M) ∧ q = atT (ts.getD z.toNatClampNeg []) p0 else x = (va_up I 33 1, M))) := by
  obtain ⟨h21, hts⟩ := hT
  have hin := isIn_n (z := z) (n := ts.length) (by omega)
  refine ct_of RX12 (by decide +kernel) rfl rfl (Nat.le_of_ble_eq_true rfl) ?_
  intro p e s m below meth c C hr hm
  refine v_lv (lv' := [(0, _), (1, _), (2, _)]) rfl ?_
  refine v_cut (pcj := 35) (lvj := [(0, .ref md), (1, .int z), (2, .int p0)]) (stj := []) (fun w => w = bI (decide ((0 ≤ z ∧ z < nI ts.length) ∧ 0 ≤ p0 ∧ p0 < nI (ts.getD z.toNatClampNeg []).length))) (fun w hw => ?_) (fun K => ?_)
  · skip
    subst hw
    refine v_istore_n C dX12_line_35 rfl (by decide) (lv' := [(3, _), (0, _), (1, _), (2, _)]) rfl ?_
    refine v_aload_n C dX12_line_36 (j := 1) rfl rfl ?_
    refine v_iload_n C dX12_line_37 (j := 0) rfl rfl ?_
    refine v_if_eq C 45 dX12_line_38 (by decide) (fun c1 => ?_) (fun c1 => ?_)
    · skip
      have hz := of_decide_eq_false (bI_0 c1)
      refine v_iconst C dX12_line_45 (v := 1) (by decide) ?_
      refine v_ci (v_runV C (m_fails 1) (cwV 1 C.1.2.2.2.2 gX12_line_X12_fails rfl rfl rfl (by decide +kernel) ⟨Nat.le_of_ble_eq_true rfl, Nat.le_of_ble_eq_true rfl⟩) rfl rfl (M_gC) dX12_line_46 (rest := []) (Nat.le_of_ble_eq_true rfl) rfl ⟨(by first | exact Nat.le_of_ble_eq_true rfl | (dsimp only; omega)), (by first | exact Nat.le_of_ble_eq_true rfl | (dsimp only; omega))⟩) (fun q x' hx' => ?_)
      obtain ⟨rfl, rfl⟩ := hx'
      refine v_if_eq C 57 dX12_line_49 (by decide) (fun c2 => absurd c2 (by intro; exact absurd c2 (by decide))) (fun c2 => ?_)
      refine v_bipush C dX12_line_52 (v := 32) (by decide) ?_
      refine v_goto C 69 dX12_line_54 (by decide) ?_
      exact v_ireturn C dX12_line_69 hr (rfl) (Nat.le_of_ble_eq_true rfl) (Nat.le_of_ble_eq_true rfl) (by rw [if_neg hz])
    · skip
      have hz := of_decide_eq_true (bI_1 c1)
      obtain ⟨k, hk, rfl⟩ := nI_of (Int32.not_lt.mpr hz.1.1)
      have hkl : k < ts.length := (nI_ltI hk (by omega)).mp hz.1.2
      have hkc : (nI k).toNatClampNeg = k := nI_clamp hk
      rw [hkc] at hz ⊢
      obtain ⟨k1, k2, k3⟩ := hts k hkl
      obtain ⟨p9, hp9, rfl⟩ := nI_of (Int32.not_lt.mpr hz.2.1)
      have hpl : p9 < (ts.getD k []).length := (nI_ltI hp9 (by omega)).mp hz.2.2
      refine v_iconst C dX12_line_41 (v := 0) (by decide) ?_
      refine v_goto C 46 dX12_line_42 (by decide) ?_
      refine v_ci (v_runV C (m_fails 0) (cwV 1 C.1.2.2.2.2 gX12_line_X12_fails rfl rfl rfl (by decide +kernel) ⟨Nat.le_of_ble_eq_true rfl, Nat.le_of_ble_eq_true rfl⟩) rfl rfl (M_gC) dX12_line_46 (rest := []) (Nat.le_of_ble_eq_true rfl) rfl ⟨(by first | exact Nat.le_of_ble_eq_true rfl | (dsimp only; omega)), (by first | exact Nat.le_of_ble_eq_true rfl | (dsimp only; omega))⟩) (fun q x' hx' => ?_)
      obtain ⟨rfl, rfl⟩ := hx'
      refine v_if_eq C 57 dX12_line_49 (by decide) (fun c2 => ?_) (fun c2 => absurd c2 (by intro h; exact h (by decide)))
      refine v_aload_n C dX12_line_57 (j := 1) rfl rfl ?_
      refine v_get C (T := TX12) (ci := 12) (j := 26) dX12_line_58 wiX12_line_X12 rfl (by decide) wfX12_line_66 (fun _ h => h) (M_ref rfl (by decide)) ?_
      refine v_bipush C dX12_line_61 (v := 60) (by decide) ?_
      refine v_iload_n C dX12_line_63 (j := 2) rfl rfl ?_
      refine v_imul C dX12_line_64 ?_
      refine v_iload_n C dX12_line_65 (j := 3) rfl rfl ?_
      refine v_iadd C dX12_line_66 ?_
      refine v_int (b := nI (60 * k + p9)) (nI_60 k p9) ?_
      refine v_iald C dX12_line_67 1 ht1 (M_arr (j := 26) rfl) (vp_in_nI (by show 60 * k + p9 < 2400; omega) (by decide)) ?_
      refine v_int (b := (ts.getD k []).getD p9 0) (by rw [nI_clamp (by omega)]; exact k3 p9 hpl) ?_
      have hc9 := chs_getD (hch k hkl) hpl
      refine v_i2c C dX12_line_68 ?_
      refine v_int (b := (ts.getD k []).getD p9 0) (ch_i2c hc9) ?_
      exact v_ireturn C dX12_line_69 hr (hc9) (Nat.le_of_ble_eq_true rfl) (Nat.le_of_ble_eq_true rfl) (by rw [if_pos hz]; exact ⟨rfl, by unfold atT; rw [if_pos ⟨hz.2.1, hz.2.2⟩, nI_clamp hp9]⟩)
  · skip
    refine v_iload_n C dX12_line_0 (j := 1) rfl rfl ?_
    refine v_iconst C dX12_line_1 (v := 0) (by decide) ?_
    refine v_aload_n C dX12_line_2 (j := 0) rfl rfl ?_
    refine v_get C (T := TX12) (ci := 12) (j := 25) dX12_line_3 wiX12_line_X12 rfl (by decide) wfX12_line_199 (fun _ h => h) (M_int rfl (by decide)) ?_
    refine v_iconst C dX12_line_6 (v := 1) (by decide) ?_
    refine v_isub C dX12_line_7 ?_
    rw [h21]
    refine v_ci (v_runS C (m_isIn z 0 (nI ts.length - 1)) (va_cwS 3 C.1.2.2.2.2 gX12_line_X12_isIn rfl rfl rfl (by decide +kernel) ⟨Nat.le_of_ble_eq_true rfl, Nat.le_of_ble_eq_true rfl⟩) rfl dX12_line_8 (rest := []) (Nat.le_of_ble_eq_true rfl) rfl ⟨(by first | exact Nat.le_of_ble_eq_true rfl | (dsimp only; omega)), (by first | exact Nat.le_of_ble_eq_true rfl | (dsimp only; omega))⟩) (fun q x' hx' => ?_)
    obtain ⟨rfl, rfl⟩ := hx'
    refine v_if_eq C 34 dX12_line_11 (by decide) (fun c1 => ?_) (fun c1 => ?_)
    · skip
      refine v_iconst C dX12_line_34 (v := 0) (by decide) ?_
      exact K _ (bI_f (decide_eq_false (fun h => by have := hin.mpr h.1; rw [bI_0 c1] at this; cases this)))
    · skip
      have hz := hin.mp (bI_1 c1)
      obtain ⟨k, hk, rfl⟩ := nI_of (Int32.not_lt.mpr hz.1)
      have hkl : k < ts.length := (nI_ltI hk (by omega)).mp hz.2
      have hkc : (nI k).toNatClampNeg = k := nI_clamp hk
      rw [hkc] at K
      obtain ⟨k1, k2, k3⟩ := hts k hkl
      have hin2 := isIn_n (z := p0) (n := (ts.getD k []).length) (by omega)
      refine v_iload_n C dX12_line_14 (j := 2) rfl rfl ?_
      refine v_iconst C dX12_line_15 (v := 0) (by decide) ?_
      refine v_aload_n C dX12_line_16 (j := 0) rfl rfl ?_
      refine v_get C (T := TX12) (ci := 12) (j := 27) dX12_line_17 wiX12_line_X12 rfl (by decide) wfX12_line_69 (fun _ h => h) (M_ref rfl (by decide)) ?_
      refine v_iload_n C dX12_line_20 (j := 1) rfl rfl ?_
      refine v_iald C dX12_line_21 1 ht1 (M_arr (j := 27) rfl) (vp_in_nI (by show k < 40; omega) (by decide)) ?_
      rw [hkc, k1]
      refine v_iconst C dX12_line_22 (v := 1) (by decide) ?_
      refine v_isub C dX12_line_23 ?_
      refine v_ci (v_runS C (m_isIn p0 0 (nI (ts.getD k []).length - 1)) (va_cwS 3 C.1.2.2.2.2 gX12_line_X12_isIn rfl rfl rfl (by decide +kernel) ⟨Nat.le_of_ble_eq_true rfl, Nat.le_of_ble_eq_true rfl⟩) rfl dX12_line_24 (rest := []) (Nat.le_of_ble_eq_true rfl) rfl ⟨(by first | exact Nat.le_of_ble_eq_true rfl | (dsimp only; omega)), (by first | exact Nat.le_of_ble_eq_true rfl | (dsimp only; omega))⟩) (fun q x' hx' => ?_)
      obtain ⟨rfl, rfl⟩ := hx'
      refine v_if_eq C 34 dX12_line_27 (by decide) (fun c2 => ?_) (fun c2 => ?_)
      · skip
        refine v_iconst C dX12_line_34 (v := 0) (by decide) ?_
        exact K _ (bI_f (decide_eq_false (fun h => by have := hin2.mpr h.2; rw [bI_0 c2] at this; cases this)))
      · skip
        refine v_iconst C dX12_line_30 (v := 1) (by decide) ?_
        refine v_goto C 35 dX12_line_31 (by decide) ?_
        exact K _ (bI_t (decide_eq_true ⟨hz, hin2.mp (bI_1 c2)⟩))
end MLI
