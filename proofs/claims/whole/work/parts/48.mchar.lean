/-! ===== the reference: character ===== -/
theorem wfX12_character_13 : Cond.fieldLink RX12 13 "FieldScribeModel" (TX12 1).2.1 (TX12 1).2.2.1 ∈ wsX12_character := by decide +kernel
theorem wiX12_character_X12 : ∀ w ∈ u_ws RX12 TX12 34, w ∈ wsX12_character := by decide +kernel
section MCH
variable {l : Launch} {D : va_G} {tys : List (ClassId × FieldType)} {z0 : Nat} {A : Nat → Prop} {cI cZ : ClassId} {md : Nat} {ad : Nat → Nat} {I : Nat → Int32} {M : Nat → Nat → Int32} {sep : Int32} {r : List Int32}
set_option maxRecDepth 100000 in
set_option maxHeartbeats 8000000 in
theorem m_character (ht1 : tys[1]? = some (cI, .int)) (hR : mRec I M r) (hC : mCut I M sep r) (hch : chs r) (z p0 : Int32) : ct D tys z0 A (picM D cI cZ md ad A) l yX12_character wsX12_character (rmL 2 42) [.ref md, .int z, .int p0] (I, M) (qI (picM D cI cZ md ad A) A (fun q x => if isFd z = true ∧ 0 ≤ p0 ∧ p0 < nI (fld sep r z.toNatClampNeg).length then x = (va_up I 33 0, M) ∧ q = atT (fld sep r z.toNatClampNeg) p0 else x = (va_up I 33 1, M))) := by
  have h60 := hR.2.1
  refine ct_of RX12 (by decide +kernel) rfl rfl (Nat.le_of_ble_eq_true rfl) ?_
  intro p e s m below meth c C hr hm
  refine v_lv (lv' := [(0, _), (1, _), (2, _)]) rfl ?_
  refine v_cut (pcj := 31) (lvj := [(0, .ref md), (1, .int z), (2, .int p0)]) (stj := []) (fun w => w = bI (decide (isFd z = true ∧ 0 ≤ p0 ∧ p0 < nI (fld sep r z.toNatClampNeg).length))) (fun w hw => ?_) (fun K => ?_)
  · skip
    subst hw
    refine v_istore_n C dX12_character_31 rfl (by decide) (lv' := [(3, _), (0, _), (1, _), (2, _)]) rfl ?_
    refine v_aload_n C dX12_character_32 (j := 1) rfl rfl ?_
    refine v_iload_n C dX12_character_33 (j := 0) rfl rfl ?_
    refine v_if_eq C 41 dX12_character_34 (by decide) (fun c1 => ?_) (fun c1 => ?_)
    · skip
      have hz := of_decide_eq_false (bI_0 c1)
      refine v_iconst C dX12_character_41 (v := 1) (by decide) ?_
      refine v_ci (v_runV C (m_fails 1) (cwV 1 C.1.2.2.2.2 gX12_character_X12_fails rfl rfl rfl (by decide +kernel) ⟨Nat.le_of_ble_eq_true rfl, Nat.le_of_ble_eq_true rfl⟩) rfl rfl (M_gC) dX12_character_42 (rest := []) (Nat.le_of_ble_eq_true rfl) rfl ⟨(by first | exact Nat.le_of_ble_eq_true rfl | (dsimp only; omega)), (by first | exact Nat.le_of_ble_eq_true rfl | (dsimp only; omega))⟩) (fun q x' hx' => ?_)
      obtain ⟨rfl, rfl⟩ := hx'
      refine v_if_eq C 53 dX12_character_45 (by decide) (fun c2 => absurd c2 (by intro; exact absurd c2 (by decide))) (fun c2 => ?_)
      refine v_bipush C dX12_character_48 (v := 32) (by decide) ?_
      refine v_goto C 66 dX12_character_50 (by decide) ?_
      exact v_ireturn C dX12_character_66 hr (rfl) (Nat.le_of_ble_eq_true rfl) (Nat.le_of_ble_eq_true rfl) (by rw [if_neg hz])
    · skip
      have hz := of_decide_eq_true (bI_1 c1)
      obtain ⟨k, hk, rfl⟩ := isFd_nI hz.1
      have hkc : (nI k).toNatClampNeg = k := nI_clamp (by omega)
      rw [hkc] at hz ⊢
      obtain ⟨b, e, hb, he, hs⟩ := be hR hC hk
      have hl := str_len hs
      have q1 := hs.1
      have q2 := hs.2.1
      obtain ⟨p9, hp9, rfl⟩ := nI_of (Int32.not_lt.mpr hz.2.1)
      have hpl : p9 < (fld sep r k).length := (nI_ltI hp9 (by omega)).mp hz.2.2
      refine v_iconst C dX12_character_37 (v := 0) (by decide) ?_
      refine v_goto C 42 dX12_character_38 (by decide) ?_
      refine v_ci (v_runV C (m_fails 0) (cwV 1 C.1.2.2.2.2 gX12_character_X12_fails rfl rfl rfl (by decide +kernel) ⟨Nat.le_of_ble_eq_true rfl, Nat.le_of_ble_eq_true rfl⟩) rfl rfl (M_gC) dX12_character_42 (rest := []) (Nat.le_of_ble_eq_true rfl) rfl ⟨(by first | exact Nat.le_of_ble_eq_true rfl | (dsimp only; omega)), (by first | exact Nat.le_of_ble_eq_true rfl | (dsimp only; omega))⟩) (fun q x' hx' => ?_)
      obtain ⟨rfl, rfl⟩ := hx'
      have hc : mch [33] [] I M (va_up I 33 0) M := mch_I (by decide) _
      refine v_if_eq C 53 dX12_character_45 (by decide) (fun c2 => ?_) (fun c2 => absurd c2 (by intro h; exact h (by decide)))
      refine v_aload_n C dX12_character_53 (j := 1) rfl rfl ?_
      refine v_get C (T := TX12) (ci := 12) (j := 1) dX12_character_54 wiX12_character_X12 rfl (by decide) wfX12_character_13 (fun _ h => h) (M_ref rfl (by decide)) ?_
      refine v_aload_n C dX12_character_57 (j := 1) rfl rfl ?_
      refine v_iload_n C dX12_character_58 (j := 2) rfl rfl ?_
      refine v_ci (v_runV C (m_from ht1 hk ((be_ch (k := k) hc (by decide) (by decide) (by decide) (by decide)).1.trans hb)) (cwV 1 C.1.2.2.2.2 gX12_character_X12_from rfl rfl rfl (by decide +kernel) ⟨Nat.le_of_ble_eq_true rfl, Nat.le_of_ble_eq_true rfl⟩) rfl rfl (M_gC) dX12_character_59 (rest := [_]) (Nat.le_of_ble_eq_true rfl) rfl ⟨(by first | exact Nat.le_of_ble_eq_true rfl | (dsimp only; omega)), (by first | exact Nat.le_of_ble_eq_true rfl | (dsimp only; omega))⟩) (fun q x' hx' => ?_)
      obtain ⟨rfl, rfl⟩ := hx'
      refine v_iload_n C dX12_character_62 (j := 3) rfl rfl ?_
      refine v_iadd C dX12_character_63 ?_
      refine v_int (b := nI (b + p9)) (nI_add b p9) ?_
      refine v_iald C dX12_character_64 1 ht1 (M_arr (j := 1) rfl) (vp_in_nI (by show b + p9 < 60; omega) (by decide)) ?_
      refine v_int (b := (fld sep r k).getD p9 0) (by rw [nI_clamp (by omega), hR.2.2 _ (by omega), str_get hs hpl]) ?_
      have hc9 : ch ((fld sep r k).getD p9 0) := by rw [str_get hs hpl]; exact chs_getD hch (by omega)
      refine v_i2c C dX12_character_65 ?_
      refine v_int (b := (fld sep r k).getD p9 0) (ch_i2c hc9) ?_
      exact v_ireturn C dX12_character_66 hr (hc9) (Nat.le_of_ble_eq_true rfl) (Nat.le_of_ble_eq_true rfl) (by rw [if_pos hz]; exact ⟨rfl, by unfold atT; rw [if_pos ⟨hz.2.1, hz.2.2⟩, nI_clamp hp9]⟩)
  · skip
    refine v_iload_n C dX12_character_0 (j := 1) rfl rfl ?_
    refine v_ci (v_runS C (m_isField z) (va_cwS 1 C.1.2.2.2.2 gX12_character_X12_isField rfl rfl rfl (by decide +kernel) ⟨Nat.le_of_ble_eq_true rfl, Nat.le_of_ble_eq_true rfl⟩) rfl dX12_character_1 (rest := []) (Nat.le_of_ble_eq_true rfl) rfl ⟨(by first | exact Nat.le_of_ble_eq_true rfl | (dsimp only; omega)), (by first | exact Nat.le_of_ble_eq_true rfl | (dsimp only; omega))⟩) (fun q x' hx' => ?_)
    obtain ⟨rfl, rfl⟩ := hx'
    refine v_if_eq C 30 dX12_character_4 (by decide) (fun c1 => ?_) (fun c1 => ?_)
    · skip
      refine v_iconst C dX12_character_30 (v := 0) (by decide) ?_
      exact K _ (bI_f (decide_eq_false (fun h => by rw [bI_0 c1] at h; cases h.1)))
    · skip
      have hz := bI_1 c1
      obtain ⟨k, hk, rfl⟩ := isFd_nI hz
      have hkc : (nI k).toNatClampNeg = k := nI_clamp (by omega)
      rw [hkc] at K ⊢
      obtain ⟨b, e, hb, he, hs⟩ := be hR hC hk
      have hl := str_len hs
      have q1 := hs.1
      have q2 := hs.2.1
      refine v_iload_n C dX12_character_7 (j := 2) rfl rfl ?_
      refine v_if_lt C 30 dX12_character_8 (by decide) (fun c2 => ?_) (fun c2 => ?_)
      · skip
        refine v_iconst C dX12_character_30 (v := 0) (by decide) ?_
        exact K _ (bI_f (decide_eq_false (fun h => Int32.not_le.mpr c2 h.2.1)))
      · skip
        refine v_iload_n C dX12_character_11 (j := 2) rfl rfl ?_
        refine v_aload_n C dX12_character_12 (j := 0) rfl rfl ?_
        refine v_iload_n C dX12_character_13 (j := 1) rfl rfl ?_
        refine v_ci (v_runV C (m_to ht1 hk he) (cwV 1 C.1.2.2.2.2 gX12_character_X12_to rfl rfl rfl (by decide +kernel) ⟨Nat.le_of_ble_eq_true rfl, Nat.le_of_ble_eq_true rfl⟩) rfl rfl (M_gC) dX12_character_14 (rest := [_]) (Nat.le_of_ble_eq_true rfl) rfl ⟨(by first | exact Nat.le_of_ble_eq_true rfl | (dsimp only; omega)), (by first | exact Nat.le_of_ble_eq_true rfl | (dsimp only; omega))⟩) (fun q x' hx' => ?_)
        obtain ⟨rfl, rfl⟩ := hx'
        refine v_aload_n C dX12_character_17 (j := 0) rfl rfl ?_
        refine v_iload_n C dX12_character_18 (j := 1) rfl rfl ?_
        refine v_ci (v_runV C (m_from ht1 hk hb) (cwV 1 C.1.2.2.2.2 gX12_character_X12_from rfl rfl rfl (by decide +kernel) ⟨Nat.le_of_ble_eq_true rfl, Nat.le_of_ble_eq_true rfl⟩) rfl rfl (M_gC) dX12_character_19 (rest := [_, _]) (Nat.le_of_ble_eq_true rfl) rfl ⟨(by first | exact Nat.le_of_ble_eq_true rfl | (dsimp only; omega)), (by first | exact Nat.le_of_ble_eq_true rfl | (dsimp only; omega))⟩) (fun q x' hx' => ?_)
        obtain ⟨rfl, rfl⟩ := hx'
        refine v_isub C dX12_character_22 ?_
        refine v_int (b := nI (fld sep r k).length) (by rw [hl]; exact pk_sub (by omega)) ?_
        refine v_icmp_ge C 30 dX12_character_23 (by decide) (fun c3 => ?_) (fun c3 => ?_)
        · skip
          refine v_iconst C dX12_character_30 (v := 0) (by decide) ?_
          exact K _ (bI_f (decide_eq_false (fun h => Int32.not_le.mpr h.2.2 c3)))
        · skip
          refine v_iconst C dX12_character_26 (v := 1) (by decide) ?_
          refine v_goto C 31 dX12_character_27 (by decide) ?_
          exact K _ (bI_t (decide_eq_true ⟨hz, Int32.not_lt.mp c2, Int32.not_le.mp c3⟩))
end MCH
