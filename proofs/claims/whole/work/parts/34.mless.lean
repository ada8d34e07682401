/-! ===== the reference: isLess, isTrue ===== -/
theorem wfX12_isLess_13 : Cond.fieldLink RX12 13 "FieldScribeModel" (TX12 1).2.1 (TX12 1).2.2.1 ∈ wsX12_isLess := by decide +kernel
theorem wiX12_isLess_X12 : ∀ w ∈ u_ws RX12 TX12 34, w ∈ wsX12_isLess := by decide +kernel
theorem wfX12_isTrue_29 : Cond.fieldLink RX12 29 "FieldScribeModel" (TX12 12).2.1 (TX12 12).2.2.1 ∈ wsX12_isTrue := by decide +kernel
theorem wiX12_isTrue_X12 : ∀ w ∈ u_ws RX12 TX12 34, w ∈ wsX12_isTrue := by decide +kernel
theorem wfX12_isTrue_32 : Cond.fieldLink RX12 32 "FieldScribeModel" (TX12 13).2.1 (TX12 13).2.2.1 ∈ wsX12_isTrue := by decide +kernel
theorem wfX12_isTrue_26 : Cond.fieldLink RX12 26 "FieldScribeModel" (TX12 11).2.1 (TX12 11).2.2.1 ∈ wsX12_isTrue := by decide +kernel
theorem wfX12_isTrue_35 : Cond.fieldLink RX12 35 "FieldScribeModel" (TX12 14).2.1 (TX12 14).2.2.1 ∈ wsX12_isTrue := by decide +kernel
section ML
variable {l : Launch} {D : va_G} {tys : List (ClassId × FieldType)} {z0 : Nat} {A : Nat → Prop} {cI cZ : ClassId} {md : Nat} {ad : Nat → Nat} {I : Nat → Int32} {M : Nat → Nat → Int32} {sep : Int32} {r : List Int32}
set_option maxRecDepth 100000 in
set_option maxHeartbeats 8000000 in
theorem m_isLess (ht1 : tys[1]? = some (cI, .int)) (hR : mRec I M r) {k1 b1 e1 k2 b2 e2 : Nat} {t u : List Int32} (hk1 : k1 ≤ 12) (hb1 : bOf I M k1 = nI b1) (he1 : eOf I M k1 = nI e1) (hs1 : str r b1 e1 t) (hk2 : k2 ≤ 12) (hb2 : bOf I M k2 = nI b2) (he2 : eOf I M k2 = nI e2) (hs2 : str r b2 e2 u) : ct D tys z0 A (picM D cI cZ md ad A) l yX12_isLess wsX12_isLess (rmL 4 92) [.ref md, .int (nI k1), .int (nI k2)] (I, M) (qI (picM D cI cZ md ad A) A (fun q x => x = (I, M) ∧ q = bI (lessT t u))) := by
  have hl1 := str_len hs1
  have hl2 := str_len hs2
  have h60 := hR.2.1
  have q1 := hs1.1
  have q2 := hs1.2.1
  have q3 := hs2.1
  have q4 := hs2.2.1
  refine ct_of RX12 (by decide +kernel) rfl rfl (Nat.le_of_ble_eq_true rfl) ?_
  intro p e s m below meth c C hr hm
  refine v_lv (lv' := [(0, _), (1, _), (2, _)]) rfl ?_
  refine v_cut0 (pcj := 35) (lvj := [(0, .ref md), (1, .int (nI k1)), (2, .int (nI k2))]) (stj := []) ((isNum t && isNum u) = false) (fun hw => ?_) (fun K => ?_)
  · skip
    have eL : lessT t u = if fdif t u < t.length ∧ fdif t u < u.length then decide (rank (t.getD (fdif t u) 0) < rank (u.getD (fdif t u) 0)) else decide (t.length < u.length) := by unfold lessT; rw [if_neg (by rw [hw]; decide)]
    have hf := fdif_le t u
    refine v_aload_n C dX12_isLess_35 (j := 0) rfl rfl ?_
    refine v_iload_n C dX12_isLess_36 (j := 1) rfl rfl ?_
    refine v_ci (v_runV C (m_from ht1 hk1 hb1) (cwV 1 C.1.2.2.2.2 gX12_isLess_X12_from rfl rfl rfl (by decide +kernel) ⟨Nat.le_of_ble_eq_true rfl, Nat.le_of_ble_eq_true rfl⟩) rfl rfl (M_gC) dX12_isLess_37 (rest := []) (Nat.le_of_ble_eq_true rfl) rfl ⟨(by first | exact Nat.le_of_ble_eq_true rfl | (dsimp only; omega)), (by first | exact Nat.le_of_ble_eq_true rfl | (dsimp only; omega))⟩) (fun q x' hx' => ?_)
    obtain ⟨rfl, rfl⟩ := hx'
    refine v_istore_n C dX12_isLess_40 rfl (by decide) (lv' := [(3, _), (0, _), (1, _), (2, _)]) rfl ?_
    refine v_aload_n C dX12_isLess_41 (j := 1) rfl rfl ?_
    refine v_iload_n C dX12_isLess_42 (j := 3) rfl rfl ?_
    refine v_ci (v_runV C (m_from ht1 hk2 hb2) (cwV 1 C.1.2.2.2.2 gX12_isLess_X12_from rfl rfl rfl (by decide +kernel) ⟨Nat.le_of_ble_eq_true rfl, Nat.le_of_ble_eq_true rfl⟩) rfl rfl (M_gC) dX12_isLess_43 (rest := []) (Nat.le_of_ble_eq_true rfl) rfl ⟨(by first | exact Nat.le_of_ble_eq_true rfl | (dsimp only; omega)), (by first | exact Nat.le_of_ble_eq_true rfl | (dsimp only; omega))⟩) (fun q x' hx' => ?_)
    obtain ⟨rfl, rfl⟩ := hx'
    refine v_istore C dX12_isLess_46 (by decide) (lv' := [(4, _), (3, _), (0, _), (1, _), (2, _)]) rfl ?_
    obtain ⟨i, hi, hfd, hi1, hi2⟩ : ∃ i : Nat, i = 0 ∧ fdif t u = i + fdif (t.drop i) (u.drop i) ∧ i ≤ t.length ∧ i ≤ u.length := ⟨0, rfl, by simp, by omega, by omega⟩
    refine v_lv (lv' := [(4, .int (nI (b2 + i))), (3, .int (nI (b1 + i))), (0, _), (1, _), (2, _)]) (by rw [hi]; rfl) ?_
    clear hi
    induction hd : (t.length - i) using Nat.strongRecOn generalizing i with | _ d ih =>
      refine v_cut0 (pcj := 92) (lvj := [(4, .int (nI (b2 + i))), (3, .int (nI (b1 + i))), (0, .ref md), (1, .int (nI k1)), (2, .int (nI k2))]) (stj := []) (fdif t u = i) (fun hw2 => ?_) (fun K2 => ?_)
      · skip
        refine v_cut0 (pcj := 111) (lvj := [(4, .int (nI (b2 + i))), (3, .int (nI (b1 + i))), (0, .ref md), (1, .int (nI k1)), (2, .int (nI k2))]) (stj := []) (i = t.length ∨ i = u.length) (fun hw3 => ?_) (fun K3 => ?_)
        · skip
          have eL2 : lessT t u = decide (t.length < u.length) := by rw [eL, if_neg (by rw [hw2]; omega)]
          refine v_iload_n C dX12_isLess_111 (j := 1) rfl rfl ?_
          refine v_aload_n C dX12_isLess_112 (j := 2) rfl rfl ?_
          refine v_iload_n C dX12_isLess_113 (j := 3) rfl rfl ?_
          refine v_ci (v_runV C (m_to ht1 hk1 he1) (cwV 1 C.1.2.2.2.2 gX12_isLess_X12_to rfl rfl rfl (by decide +kernel) ⟨Nat.le_of_ble_eq_true rfl, Nat.le_of_ble_eq_true rfl⟩) rfl rfl (M_gC) dX12_isLess_114 (rest := [_]) (Nat.le_of_ble_eq_true rfl) rfl ⟨(by first | exact Nat.le_of_ble_eq_true rfl | (dsimp only; omega)), (by first | exact Nat.le_of_ble_eq_true rfl | (dsimp only; omega))⟩) (fun q x' hx' => ?_)
          obtain ⟨rfl, rfl⟩ := hx'
          refine v_icmp_ne C 134 dX12_isLess_117 (by decide) (fun c1 => ?_) (fun c1 => ?_)
          · skip
            have c2 : b1 + i ≠ e1 := fun z => c1 (by rw [z])
            refine v_iconst C dX12_isLess_134 (v := 0) (by decide) ?_
            exact v_ireturn C dX12_isLess_135 hr (rfl) (Nat.le_of_ble_eq_true rfl) (Nat.le_of_ble_eq_true rfl) (⟨rfl, bI_f (by rw [eL2]; exact decide_eq_false (by omega))⟩)
          · skip
            have c2 : b1 + i = e1 := by have := congrArg Int32.toNatClampNeg c1; rw [nI_clamp (by omega), nI_clamp (by omega)] at this; exact this
            refine v_iload C dX12_isLess_120 (j := 0) rfl ?_
            refine v_aload_n C dX12_isLess_122 (j := 2) rfl rfl ?_
            refine v_iload_n C dX12_isLess_123 (j := 4) rfl rfl ?_
            refine v_ci (v_runV C (m_to ht1 hk2 he2) (cwV 1 C.1.2.2.2.2 gX12_isLess_X12_to rfl rfl rfl (by decide +kernel) ⟨Nat.le_of_ble_eq_true rfl, Nat.le_of_ble_eq_true rfl⟩) rfl rfl (M_gC) dX12_isLess_124 (rest := [_]) (Nat.le_of_ble_eq_true rfl) rfl ⟨(by first | exact Nat.le_of_ble_eq_true rfl | (dsimp only; omega)), (by first | exact Nat.le_of_ble_eq_true rfl | (dsimp only; omega))⟩) (fun q x' hx' => ?_)
            obtain ⟨rfl, rfl⟩ := hx'
            refine v_icmp_ge C 134 dX12_isLess_127 (by decide) (fun c3 => ?_) (fun c3 => ?_)
            · skip
              have c4 := le_of c3 (by omega) (by omega)
              refine v_iconst C dX12_isLess_134 (v := 0) (by decide) ?_
              exact v_ireturn C dX12_isLess_135 hr (rfl) (Nat.le_of_ble_eq_true rfl) (Nat.le_of_ble_eq_true rfl) (⟨rfl, bI_f (by rw [eL2]; exact decide_eq_false (by omega))⟩)
            · skip
              have c4 := lt_ofn c3 (by omega) (by omega)
              refine v_iconst C dX12_isLess_130 (v := 1) (by decide) ?_
              refine v_goto C 135 dX12_isLess_131 (by decide) ?_
              exact v_ireturn C dX12_isLess_135 hr (rfl) (Nat.le_of_ble_eq_true rfl) (Nat.le_of_ble_eq_true rfl) (⟨rfl, bI_t (by rw [eL2]; exact decide_eq_true (by omega))⟩)
        · skip
          refine v_iload_n C dX12_isLess_92 (j := 1) rfl rfl ?_
          refine v_aload_n C dX12_isLess_93 (j := 2) rfl rfl ?_
          refine v_iload_n C dX12_isLess_94 (j := 3) rfl rfl ?_
          refine v_ci (v_runV C (m_to ht1 hk1 he1) (cwV 1 C.1.2.2.2.2 gX12_isLess_X12_to rfl rfl rfl (by decide +kernel) ⟨Nat.le_of_ble_eq_true rfl, Nat.le_of_ble_eq_true rfl⟩) rfl rfl (M_gC) dX12_isLess_95 (rest := [_]) (Nat.le_of_ble_eq_true rfl) rfl ⟨(by first | exact Nat.le_of_ble_eq_true rfl | (dsimp only; omega)), (by first | exact Nat.le_of_ble_eq_true rfl | (dsimp only; omega))⟩) (fun q x' hx' => ?_)
          obtain ⟨rfl, rfl⟩ := hx'
          refine v_icmp_eq C 111 dX12_isLess_98 (by decide) (fun c1 => ?_) (fun c1 => ?_)
          · skip
            exact K3 (Or.inl (by have := congrArg Int32.toNatClampNeg c1; rw [nI_clamp (by omega), nI_clamp (by omega)] at this; omega))
          · skip
            have c2 : b1 + i ≠ e1 := fun z => c1 (by rw [z])
            refine v_iload C dX12_isLess_101 (j := 0) rfl ?_
            refine v_aload_n C dX12_isLess_103 (j := 2) rfl rfl ?_
            refine v_iload_n C dX12_isLess_104 (j := 4) rfl rfl ?_
            refine v_ci (v_runV C (m_to ht1 hk2 he2) (cwV 1 C.1.2.2.2.2 gX12_isLess_X12_to rfl rfl rfl (by decide +kernel) ⟨Nat.le_of_ble_eq_true rfl, Nat.le_of_ble_eq_true rfl⟩) rfl rfl (M_gC) dX12_isLess_105 (rest := [_]) (Nat.le_of_ble_eq_true rfl) rfl ⟨(by first | exact Nat.le_of_ble_eq_true rfl | (dsimp only; omega)), (by first | exact Nat.le_of_ble_eq_true rfl | (dsimp only; omega))⟩) (fun q x' hx' => ?_)
            obtain ⟨rfl, rfl⟩ := hx'
            refine v_icmp_ne C 136 dX12_isLess_108 (by decide) (fun c3 => ?_) (fun c3 => ?_)
            · skip
              have c4 : b2 + i ≠ e2 := fun z => c3 (by rw [z])
              have eL2 : lessT t u = decide (rank (t.getD i 0) < rank (u.getD i 0)) := by rw [eL, if_pos (by omega), hw2]
              refine v_aload_n C dX12_isLess_136 (j := 2) rfl rfl ?_
              refine v_get C (T := TX12) (ci := 12) (j := 1) dX12_isLess_137 wiX12_isLess_X12 rfl (by decide) wfX12_isLess_13 (fun _ h => h) (M_ref rfl (by decide)) ?_
              refine v_iload_n C dX12_isLess_140 (j := 1) rfl rfl ?_
              refine v_iald C dX12_isLess_141 1 ht1 (M_arr (j := 1) rfl) (vp_in_nI (by show b1 + i < 60; omega) (by decide)) ?_
              refine v_int (b := t.getD i 0) (by rw [nI_clamp (by omega), hR.2.2 _ (by omega), str_get hs1 (by omega)]) ?_
              refine v_ci (v_runS C (m_rank (t.getD i 0)) (va_cwS 1 C.1.2.2.2.2 gX12_isLess_X12_rank rfl rfl rfl (by decide +kernel) ⟨Nat.le_of_ble_eq_true rfl, Nat.le_of_ble_eq_true rfl⟩) rfl dX12_isLess_142 (rest := []) (Nat.le_of_ble_eq_true rfl) rfl ⟨(by first | exact Nat.le_of_ble_eq_true rfl | (dsimp only; omega)), (by first | exact Nat.le_of_ble_eq_true rfl | (dsimp only; omega))⟩) (fun q x' hx' => ?_)
              obtain ⟨rfl, rfl⟩ := hx'
              refine v_aload_n C dX12_isLess_145 (j := 2) rfl rfl ?_
              refine v_get C (T := TX12) (ci := 12) (j := 1) dX12_isLess_146 wiX12_isLess_X12 rfl (by decide) wfX12_isLess_13 (fun _ h => h) (M_ref rfl (by decide)) ?_
              refine v_iload C dX12_isLess_149 (j := 0) rfl ?_
              refine v_iald C dX12_isLess_151 1 ht1 (M_arr (j := 1) rfl) (vp_in_nI (by show b2 + i < 60; omega) (by decide)) ?_
              refine v_int (b := u.getD i 0) (by rw [nI_clamp (by omega), hR.2.2 _ (by omega), str_get hs2 (by omega)]) ?_
              refine v_ci (v_runS C (m_rank (u.getD i 0)) (va_cwS 1 C.1.2.2.2.2 gX12_isLess_X12_rank rfl rfl rfl (by decide +kernel) ⟨Nat.le_of_ble_eq_true rfl, Nat.le_of_ble_eq_true rfl⟩) rfl dX12_isLess_152 (rest := [_]) (Nat.le_of_ble_eq_true rfl) rfl ⟨(by first | exact Nat.le_of_ble_eq_true rfl | (dsimp only; omega)), (by first | exact Nat.le_of_ble_eq_true rfl | (dsimp only; omega))⟩) (fun q x' hx' => ?_)
              obtain ⟨rfl, rfl⟩ := hx'
              refine v_icmp_ge C 162 dX12_isLess_155 (by decide) (fun c5 => ?_) (fun c5 => ?_)
              · skip
                refine v_iconst C dX12_isLess_162 (v := 0) (by decide) ?_
                exact v_ireturn C dX12_isLess_163 hr (rfl) (Nat.le_of_ble_eq_true rfl) (Nat.le_of_ble_eq_true rfl) (⟨rfl, bI_f (by rw [eL2]; exact decide_eq_false (Int32.not_lt.mpr c5))⟩)
              · skip
                refine v_iconst C dX12_isLess_158 (v := 1) (by decide) ?_
                refine v_goto C 163 dX12_isLess_159 (by decide) ?_
                exact v_ireturn C dX12_isLess_163 hr (rfl) (Nat.le_of_ble_eq_true rfl) (Nat.le_of_ble_eq_true rfl) (⟨rfl, bI_t (by rw [eL2]; exact decide_eq_true (Int32.not_le.mp c5))⟩)
            · skip
              exact K3 (Or.inr (by have := congrArg Int32.toNatClampNeg c3; rw [nI_clamp (by omega), nI_clamp (by omega)] at this; omega))
      · skip
        refine v_iload_n C dX12_isLess_48 (j := 1) rfl rfl ?_
        refine v_aload_n C dX12_isLess_49 (j := 2) rfl rfl ?_
        refine v_iload_n C dX12_isLess_50 (j := 3) rfl rfl ?_
        refine v_ci (v_runV C (m_to ht1 hk1 he1) (cwV 1 C.1.2.2.2.2 gX12_isLess_X12_to rfl rfl rfl (by decide +kernel) ⟨Nat.le_of_ble_eq_true rfl, Nat.le_of_ble_eq_true rfl⟩) rfl rfl (M_gC) dX12_isLess_51 (rest := [_]) (Nat.le_of_ble_eq_true rfl) rfl ⟨(by first | exact Nat.le_of_ble_eq_true rfl | (dsimp only; omega)), (by first | exact Nat.le_of_ble_eq_true rfl | (dsimp only; omega))⟩) (fun q x' hx' => ?_)
        obtain ⟨rfl, rfl⟩ := hx'
        refine v_icmp_ge C 92 dX12_isLess_54 (by decide) (fun c1 => ?_) (fun c1 => ?_)
        · skip
          exact K2 (by rw [hfd, fdif_end (Or.inl (by have := le_of c1 (by omega) (by omega); omega))]; rfl)
        · skip
          have c2 := lt_ofn c1 (by omega) (by omega)
          refine v_iload C dX12_isLess_57 (j := 0) rfl ?_
          refine v_aload_n C dX12_isLess_59 (j := 2) rfl rfl ?_
          refine v_iload_n C dX12_isLess_60 (j := 4) rfl rfl ?_
          refine v_ci (v_runV C (m_to ht1 hk2 he2) (cwV 1 C.1.2.2.2.2 gX12_isLess_X12_to rfl rfl rfl (by decide +kernel) ⟨Nat.le_of_ble_eq_true rfl, Nat.le_of_ble_eq_true rfl⟩) rfl rfl (M_gC) dX12_isLess_61 (rest := [_]) (Nat.le_of_ble_eq_true rfl) rfl ⟨(by first | exact Nat.le_of_ble_eq_true rfl | (dsimp only; omega)), (by first | exact Nat.le_of_ble_eq_true rfl | (dsimp only; omega))⟩) (fun q x' hx' => ?_)
          obtain ⟨rfl, rfl⟩ := hx'
          refine v_icmp_ge C 92 dX12_isLess_64 (by decide) (fun c3 => ?_) (fun c3 => ?_)
          · skip
            exact K2 (by rw [hfd, fdif_end (Or.inr (by have := le_of c3 (by omega) (by omega); omega))]; rfl)
          · skip
            have c4 := lt_ofn c3 (by omega) (by omega)
            have hfs := fdif_step (s := t) (u := u) (j := i) (by omega) (by omega)
            refine v_aload_n C dX12_isLess_67 (j := 2) rfl rfl ?_
            refine v_get C (T := TX12) (ci := 12) (j := 1) dX12_isLess_68 wiX12_isLess_X12 rfl (by decide) wfX12_isLess_13 (fun _ h => h) (M_ref rfl (by decide)) ?_
            refine v_iload_n C dX12_isLess_71 (j := 1) rfl rfl ?_
            refine v_iald C dX12_isLess_72 1 ht1 (M_arr (j := 1) rfl) (vp_in_nI (by show b1 + i < 60; omega) (by decide)) ?_
            refine v_int (b := t.getD i 0) (by rw [nI_clamp (by omega), hR.2.2 _ (by omega), str_get hs1 (by omega)]) ?_
            refine v_aload_n C dX12_isLess_73 (j := 2) rfl rfl ?_
            refine v_get C (T := TX12) (ci := 12) (j := 1) dX12_isLess_74 wiX12_isLess_X12 rfl (by decide) wfX12_isLess_13 (fun _ h => h) (M_ref rfl (by decide)) ?_
            refine v_iload C dX12_isLess_77 (j := 0) rfl ?_
            refine v_iald C dX12_isLess_79 1 ht1 (M_arr (j := 1) rfl) (vp_in_nI (by show b2 + i < 60; omega) (by decide)) ?_
            refine v_int (b := u.getD i 0) (by rw [nI_clamp (by omega), hR.2.2 _ (by omega), str_get hs2 (by omega)]) ?_
            refine v_icmp_ne C 92 dX12_isLess_80 (by decide) (fun c5 => ?_) (fun c5 => ?_)
            · skip
              exact K2 (by rw [hfd, hfs, if_neg c5]; rfl)
            · skip
              refine v_iinc C dX12_isLess_83 (j := 1) (v := _ + 1) rfl rfl (by decide) (lv' := [(3, _), (4, _), (0, _), (1, _), (2, _)]) rfl ?_
              refine v_iinc C dX12_isLess_86 (j := 1) (v := _ + 1) rfl rfl (by decide) (lv' := [(4, _), (3, _), (0, _), (1, _), (2, _)]) rfl ?_
              refine v_goto C 48 dX12_isLess_89 (by decide) ?_
              refine v_lv (lv' := [(4, .int (nI (b2 + (i + 1)))), (3, .int (nI (b1 + (i + 1)))), (0, _), (1, _), (2, _)]) (by rw [nI_1, nI_1]; rfl) ?_
              exact ih (t.length - (i + 1)) (by omega) (i + 1) (by rw [hfd, hfs, if_pos c5]; omega) (by omega) (by omega) rfl
  · skip
    refine v_aload_n C dX12_isLess_0 (j := 0) rfl rfl ?_
    refine v_iload_n C dX12_isLess_1 (j := 1) rfl rfl ?_
    refine v_ci (v_runV C (m_isNumeric ht1 hR hk1 hb1 he1 hs1) (cwV 1 C.1.2.2.2.2 gX12_isLess_X12_isNumeric rfl rfl rfl (by decide +kernel) ⟨Nat.le_of_ble_eq_true rfl, Nat.le_of_ble_eq_true rfl⟩) rfl rfl (M_gC) dX12_isLess_2 (rest := []) (Nat.le_of_ble_eq_true rfl) rfl ⟨(by first | exact Nat.le_of_ble_eq_true rfl | (dsimp only; omega)), (by first | exact Nat.le_of_ble_eq_true rfl | (dsimp only; omega))⟩) (fun q x' hx' => ?_)
    obtain ⟨rfl, rfl⟩ := hx'
    refine v_if_eq C 35 dX12_isLess_5 (by decide) (fun c1 => ?_) (fun c1 => ?_)
    · skip
      exact K (by rw [bI_0 c1]; rfl)
    · skip
      refine v_aload_n C dX12_isLess_8 (j := 0) rfl rfl ?_
      refine v_iload_n C dX12_isLess_9 (j := 2) rfl rfl ?_
      refine v_ci (v_runV C (m_isNumeric ht1 hR hk2 hb2 he2 hs2) (cwV 1 C.1.2.2.2.2 gX12_isLess_X12_isNumeric rfl rfl rfl (by decide +kernel) ⟨Nat.le_of_ble_eq_true rfl, Nat.le_of_ble_eq_true rfl⟩) rfl rfl (M_gC) dX12_isLess_10 (rest := []) (Nat.le_of_ble_eq_true rfl) rfl ⟨(by first | exact Nat.le_of_ble_eq_true rfl | (dsimp only; omega)), (by first | exact Nat.le_of_ble_eq_true rfl | (dsimp only; omega))⟩) (fun q x' hx' => ?_)
      obtain ⟨rfl, rfl⟩ := hx'
      refine v_if_eq C 35 dX12_isLess_13 (by decide) (fun c2 => ?_) (fun c2 => ?_)
      · skip
        exact K (by rw [bI_0 c2, Bool.and_false])
      · skip
        have eL : lessT t u = decide (num t < num u) := by unfold lessT; rw [if_pos (by rw [bI_1 c1, bI_1 c2]; rfl)]
        refine v_aload_n C dX12_isLess_16 (j := 0) rfl rfl ?_
        refine v_iload_n C dX12_isLess_17 (j := 1) rfl rfl ?_
        refine v_ci (v_runV C (m_numberOf ht1 hR hk1 hb1 he1 hs1) (cwV 1 C.1.2.2.2.2 gX12_isLess_X12_numberOf rfl rfl rfl (by decide +kernel) ⟨Nat.le_of_ble_eq_true rfl, Nat.le_of_ble_eq_true rfl⟩) rfl rfl (M_gC) dX12_isLess_18 (rest := []) (Nat.le_of_ble_eq_true rfl) rfl ⟨(by first | exact Nat.le_of_ble_eq_true rfl | (dsimp only; omega)), (by first | exact Nat.le_of_ble_eq_true rfl | (dsimp only; omega))⟩) (fun q x' hx' => ?_)
        obtain ⟨rfl, rfl⟩ := hx'
        refine v_aload_n C dX12_isLess_21 (j := 0) rfl rfl ?_
        refine v_iload_n C dX12_isLess_22 (j := 2) rfl rfl ?_
        refine v_ci (v_runV C (m_numberOf ht1 hR hk2 hb2 he2 hs2) (cwV 1 C.1.2.2.2.2 gX12_isLess_X12_numberOf rfl rfl rfl (by decide +kernel) ⟨Nat.le_of_ble_eq_true rfl, Nat.le_of_ble_eq_true rfl⟩) rfl rfl (M_gC) dX12_isLess_23 (rest := [_]) (Nat.le_of_ble_eq_true rfl) rfl ⟨(by first | exact Nat.le_of_ble_eq_true rfl | (dsimp only; omega)), (by first | exact Nat.le_of_ble_eq_true rfl | (dsimp only; omega))⟩) (fun q x' hx' => ?_)
        obtain ⟨rfl, rfl⟩ := hx'
        refine v_icmp_ge C 33 dX12_isLess_26 (by decide) (fun c3 => ?_) (fun c3 => ?_)
        · skip
          refine v_iconst C dX12_isLess_33 (v := 0) (by decide) ?_
          exact v_ireturn C dX12_isLess_34 hr (rfl) (Nat.le_of_ble_eq_true rfl) (Nat.le_of_ble_eq_true rfl) (⟨rfl, bI_f (by rw [eL]; exact decide_eq_false (Int32.not_lt.mpr c3))⟩)
        · skip
          refine v_iconst C dX12_isLess_29 (v := 1) (by decide) ?_
          refine v_goto C 34 dX12_isLess_30 (by decide) ?_
          exact v_ireturn C dX12_isLess_34 hr (rfl) (Nat.le_of_ble_eq_true rfl) (Nat.le_of_ble_eq_true rfl) (⟨rfl, bI_t (by rw [eL]; exact decide_eq_true (Int32.not_le.mp c3))⟩)
theorem bI_vn (b : Bool) : vp_nar .boolean (bI b) = bI b := by cases b <;> rfl
set_option maxRecDepth 100000 in
set_option maxHeartbeats 8000000 in
theorem m_isTrue (ht1 : tys[1]? = some (cI, .int)) (ht2 : tys[2]? = some (cZ, .boolean)) (hR : mRec I M r) (hC : mCut I M sep r) {i : Nat} (hi : i < 8) {pat a b : Int32} {op : Bool} (g1 : M 11 i = pat) (g2 : M 12 i = a) (g3 : M 13 i = b) (g4 : M 14 i = bI op) (hp : pat = 0 ∨ pat = 1 ∨ pat = 2 ∨ pat = 3) (hok : okPat pat a b) : ct D tys z0 A (picM D cI cZ md ad A) l yX12_isTrue wsX12_isTrue (rmL 5 116) [.ref md, .int (nI i)] (I, M) (qI (picM D cI cZ md ad A) A (fun q x => ∃ M', x = (I, M') ∧ q = bI (patB pat a b op (fld sep r)) ∧ M' 14 i = bI (patO pat a b op (fld sep r)) ∧ (∀ j, j ≠ i → M' 14 j = M 14 j) ∧ ∀ j, j ≠ 14 → M' j = M j)) := by
  refine ct_of RX12 (by decide +kernel) rfl rfl (Nat.le_of_ble_eq_true rfl) ?_
  intro p e s m below meth c C hr hm
  refine v_lv (lv' := [(0, _), (1, _)]) rfl ?_
  refine v_aload_n C dX12_isTrue_0 (j := 0) rfl rfl ?_
  refine v_get C (T := TX12) (ci := 12) (j := 12) dX12_isTrue_1 wiX12_isTrue_X12 rfl (by decide) wfX12_isTrue_29 (fun _ h => h) (M_ref rfl (by decide)) ?_
  refine v_iload_n C dX12_isTrue_4 (j := 1) rfl rfl ?_
  refine v_iald C dX12_isTrue_5 1 ht1 (M_arr (j := 12) rfl) (vp_in_nI (by show i < 8; omega) (by decide)) ?_
  rw [nI_clamp (by omega), g2]
  refine v_istore_n C dX12_isTrue_6 rfl (by decide) (lv' := [(2, _), (0, _), (1, _)]) rfl ?_
  refine v_aload_n C dX12_isTrue_7 (j := 1) rfl rfl ?_
  refine v_get C (T := TX12) (ci := 12) (j := 13) dX12_isTrue_8 wiX12_isTrue_X12 rfl (by decide) wfX12_isTrue_32 (fun _ h => h) (M_ref rfl (by decide)) ?_
  refine v_iload_n C dX12_isTrue_11 (j := 2) rfl rfl ?_
  refine v_iald C dX12_isTrue_12 1 ht1 (M_arr (j := 13) rfl) (vp_in_nI (by show i < 8; omega) (by decide)) ?_
  rw [nI_clamp (by omega), g3]
  refine v_istore_n C dX12_isTrue_13 rfl (by decide) (lv' := [(3, _), (2, _), (0, _), (1, _)]) rfl ?_
  refine v_aload_n C dX12_isTrue_14 (j := 2) rfl rfl ?_
  refine v_get C (T := TX12) (ci := 12) (j := 11) dX12_isTrue_15 wiX12_isTrue_X12 rfl (by decide) wfX12_isTrue_26 (fun _ h => h) (M_ref rfl (by decide)) ?_
  refine v_iload_n C dX12_isTrue_18 (j := 3) rfl rfl ?_
  refine v_iald C dX12_isTrue_19 1 ht1 (M_arr (j := 11) rfl) (vp_in_nI (by show i < 8; omega) (by decide)) ?_
  rw [nI_clamp (by omega), g1]
  by_cases h1 : pat = 1
  · skip
    obtain ⟨ka, hka, rfl⟩ := hok.1 h1
    obtain ⟨b1, e1, hb1, he1, hs1⟩ := be hR hC hka
    refine v_tabIn C 50 dX12_isTrue_20 (off := 30) (by rw [h1]; decide) (by rw [h1]; decide) (by rw [h1]; rfl) (by decide) ?_
    refine v_aload_n C dX12_isTrue_50 (j := 2) rfl rfl ?_
    refine v_iload_n C dX12_isTrue_51 (j := 1) rfl rfl ?_
    refine v_iload_n C dX12_isTrue_52 (j := 0) rfl rfl ?_
    refine v_ci (v_runV C (m_isSame ht1 hR hka hb1 he1 hs1 b) (cwV 2 C.1.2.2.2.2 gX12_isTrue_X12_isSame rfl rfl rfl (by decide +kernel) ⟨Nat.le_of_ble_eq_true rfl, Nat.le_of_ble_eq_true rfl⟩) rfl rfl (M_gC) dX12_isTrue_53 (rest := []) (Nat.le_of_ble_eq_true rfl) rfl ⟨(by first | exact Nat.le_of_ble_eq_true rfl | (dsimp only; omega)), (by first | exact Nat.le_of_ble_eq_true rfl | (dsimp only; omega))⟩) (fun q x' hx' => ?_)
    obtain ⟨rfl, rfl⟩ := hx'
    exact v_ireturn C dX12_isTrue_56 hr (bI_nar _) (Nat.le_of_ble_eq_true rfl) (Nat.le_of_ble_eq_true rfl) (⟨M, rfl, by unfold patB; rw [if_pos h1, nI_clamp (by omega)], by unfold patO; rw [if_neg (by rw [h1]; decide)]; exact g4, fun _ _ => rfl, fun _ _ => rfl⟩)
  · skip
    by_cases h2 : pat = 2
    · skip
      obtain ⟨⟨ka, hka, rfl⟩, kb, hkb, rfl⟩ := hok.2 h2
      obtain ⟨b1, e1, hb1, he1, hs1⟩ := be hR hC hka
      obtain ⟨b2, e2, hb2, he2, hs2⟩ := be hR hC hkb
      refine v_tabIn C 57 dX12_isTrue_20 (off := 37) (by rw [h2]; decide) (by rw [h2]; decide) (by rw [h2]; rfl) (by decide) ?_
      refine v_aload_n C dX12_isTrue_57 (j := 2) rfl rfl ?_
      refine v_iload_n C dX12_isTrue_58 (j := 1) rfl rfl ?_
      refine v_iload_n C dX12_isTrue_59 (j := 0) rfl rfl ?_
      refine v_ci (v_runV C (m_isLess ht1 hR hka hb1 he1 hs1 hkb hb2 he2 hs2) (cwV 2 C.1.2.2.2.2 gX12_isTrue_X12_isLess rfl rfl rfl (by decide +kernel) ⟨Nat.le_of_ble_eq_true rfl, Nat.le_of_ble_eq_true rfl⟩) rfl rfl (M_gC) dX12_isTrue_60 (rest := []) (Nat.le_of_ble_eq_true rfl) rfl ⟨(by first | exact Nat.le_of_ble_eq_true rfl | (dsimp only; omega)), (by first | exact Nat.le_of_ble_eq_true rfl | (dsimp only; omega))⟩) (fun q x' hx' => ?_)
      obtain ⟨rfl, rfl⟩ := hx'
      exact v_ireturn C dX12_isTrue_63 hr (bI_nar _) (Nat.le_of_ble_eq_true rfl) (Nat.le_of_ble_eq_true rfl) (⟨M, rfl, by unfold patB; rw [if_neg h1, if_pos h2, nI_clamp (by omega), nI_clamp (by omega)], by unfold patO; rw [if_neg (by rw [h2]; decide)]; exact g4, fun _ _ => rfl, fun _ _ => rfl⟩)
    · skip
      by_cases h0 : pat = 0
      · skip
        refine v_tabIn C 48 dX12_isTrue_20 (off := 28) (by rw [h0]; decide) (by rw [h0]; decide) (by rw [h0]; rfl) (by decide) ?_
        refine v_iconst C dX12_isTrue_48 (v := 1) (by decide) ?_
        exact v_ireturn C dX12_isTrue_49 hr (rfl) (Nat.le_of_ble_eq_true rfl) (Nat.le_of_ble_eq_true rfl) (⟨M, rfl, by unfold patB; rw [if_neg h1, if_neg h2, if_neg (by rw [h0]; decide)]; rfl, by unfold patO; rw [if_neg (by rw [h0]; decide)]; exact g4, fun _ _ => rfl, fun _ _ => rfl⟩)
      · skip
        have h3 : pat = 3 := by rcases hp with q | q | q | q; exact absurd q h0; exact absurd q h1; exact absurd q h2; exact q
        obtain ⟨b1, e1, hb1, he1, hs1⟩ := be hR hC (k := 1) (by decide)
        refine v_tabOut C 64 dX12_isTrue_20 (by rw [h3]; decide) (by decide) ?_
        refine v_aload_n C dX12_isTrue_64 (j := 2) rfl rfl ?_
        refine v_get C (T := TX12) (ci := 12) (j := 14) dX12_isTrue_65 wiX12_isTrue_X12 rfl (by decide) wfX12_isTrue_35 (fun _ h => h) (M_ref rfl (by decide)) ?_
        refine v_iload_n C dX12_isTrue_68 (j := 3) rfl rfl ?_
        refine v_zald C dX12_isTrue_69 2 ht2 (M_arr (j := 14) rfl) (vp_in_nI (by show i < 8; omega) (by decide)) ?_
        rw [nI_clamp (by omega), g4]
        refine v_cut (pcj := 87) (lvj := [(3, .int b), (2, .int a), (0, .ref md), (1, .int (nI i))]) (stj := []) (fun w => w = bI (op || sameN (fld sep r 1) a)) (fun w hw => ?_) (fun K => ?_)
        · skip
          subst hw
          refine v_istore C dX12_isTrue_87 (by decide) (lv' := [(4, _), (3, _), (2, _), (0, _), (1, _)]) rfl ?_
          refine v_aload_n C dX12_isTrue_89 (j := 3) rfl rfl ?_
          refine v_get C (T := TX12) (ci := 12) (j := 14) dX12_isTrue_90 wiX12_isTrue_X12 rfl (by decide) wfX12_isTrue_35 (fun _ h => h) (M_ref rfl (by decide)) ?_
          refine v_iload_n C dX12_isTrue_93 (j := 4) rfl rfl ?_
          refine v_iload C dX12_isTrue_94 (j := 0) rfl ?_
          refine v_cut (pcj := 113) (lvj := [(4, .int (bI (op || sameN (fld sep r 1) a))), (3, .int b), (2, .int a), (0, .ref md), (1, .int (nI i))]) (stj := [.int (nI i), .ref (ad 14)]) (fun w => w = bI (patO pat a b op (fld sep r))) (fun w hw => ?_) (fun K => ?_)
          · skip
            subst hw
            refine v_zast C dX12_isTrue_113 2 ht2 (vp_in_nI (by show i < 8; omega) (by decide)) (M_set (j := 14) rfl _) ?_
            rw [nI_clamp (by omega), bI_vn]
            refine v_iload C dX12_isTrue_114 (j := 0) rfl ?_
            exact v_ireturn C dX12_isTrue_116 hr (bI_nar _) (Nat.le_of_ble_eq_true rfl) (Nat.le_of_ble_eq_true rfl) (⟨_, rfl, by unfold patB; rw [if_neg h1, if_neg h2, if_pos h3], by rw [va_up_same]; unfold upd; rw [if_pos rfl], fun j hj => by rw [va_up_same]; unfold upd; rw [if_neg hj], fun j hj => va_up_other _ _ _ hj⟩)
          · skip
            refine v_if_eq C 112 dX12_isTrue_96 (by decide) (fun c1 => ?_) (fun c1 => ?_)
            · skip
              refine v_iconst C dX12_isTrue_112 (v := 0) (by decide) ?_
              exact K _ (by unfold patO; rw [if_pos h3, if_neg (by rw [bI_0 c1]; decide), (by have := bI_0 c1; rw [Bool.or_eq_false_iff] at this; exact this.1 : op = false)]; rfl)
            · skip
              refine v_aload_n C dX12_isTrue_99 (j := 3) rfl rfl ?_
              refine v_iconst C dX12_isTrue_100 (v := 1) (by decide) ?_
              refine v_iload_n C dX12_isTrue_101 (j := 1) rfl rfl ?_
              refine v_eq (w := .int b) rfl ?_
              refine v_ci (v_runV C (m_isSame ht1 hR (k := 1) (by decide) hb1 he1 hs1 b) (cwV 2 C.1.2.2.2.2 gX12_isTrue_X12_isSame rfl rfl rfl (by decide +kernel) ⟨Nat.le_of_ble_eq_true rfl, Nat.le_of_ble_eq_true rfl⟩) rfl rfl (M_gC) dX12_isTrue_102 (rest := [_, _]) (Nat.le_of_ble_eq_true rfl) rfl ⟨(by first | exact Nat.le_of_ble_eq_true rfl | (dsimp only; omega)), (by first | exact Nat.le_of_ble_eq_true rfl | (dsimp only; omega))⟩) (fun q x' hx' => ?_)
              obtain ⟨rfl, rfl⟩ := hx'
              refine v_if_ne C 112 dX12_isTrue_105 (by decide) (fun c2 => ?_) (fun c2 => ?_)
              · skip
                refine v_iconst C dX12_isTrue_112 (v := 0) (by decide) ?_
                exact K _ (by unfold patO; rw [if_pos h3, if_pos (bI_1 c1), bI_1 c2]; rfl)
              · skip
                refine v_iconst C dX12_isTrue_108 (v := 1) (by decide) ?_
                refine v_goto C 113 dX12_isTrue_109 (by decide) ?_
                exact K _ (by unfold patO; rw [if_pos h3, if_pos (bI_1 c1), bI_0 c2]; rfl)
        · skip
          refine v_if_ne C 82 dX12_isTrue_70 (by decide) (fun c1 => ?_) (fun c1 => ?_)
          · skip
            refine v_iconst C dX12_isTrue_82 (v := 1) (by decide) ?_
            refine v_goto C 87 dX12_isTrue_83 (by decide) ?_
            exact K _ (by rw [bI_1 c1]; rfl)
          · skip
            refine v_aload_n C dX12_isTrue_73 (j := 2) rfl rfl ?_
            refine v_iconst C dX12_isTrue_74 (v := 1) (by decide) ?_
            refine v_iload_n C dX12_isTrue_75 (j := 1) rfl rfl ?_
            refine v_ci (v_runV C (m_isSame ht1 hR (k := 1) (by decide) hb1 he1 hs1 a) (cwV 2 C.1.2.2.2.2 gX12_isTrue_X12_isSame rfl rfl rfl (by decide +kernel) ⟨Nat.le_of_ble_eq_true rfl, Nat.le_of_ble_eq_true rfl⟩) rfl rfl (M_gC) dX12_isTrue_76 (rest := []) (Nat.le_of_ble_eq_true rfl) rfl ⟨(by first | exact Nat.le_of_ble_eq_true rfl | (dsimp only; omega)), (by first | exact Nat.le_of_ble_eq_true rfl | (dsimp only; omega))⟩) (fun q x' hx' => ?_)
            obtain ⟨rfl, rfl⟩ := hx'
            refine v_if_eq C 86 dX12_isTrue_79 (by decide) (fun c2 => ?_) (fun c2 => ?_)
            · skip
              refine v_iconst C dX12_isTrue_86 (v := 0) (by decide) ?_
              exact K _ (by rw [bI_0 c1, bI_0 c2]; rfl)
            · skip
              refine v_iconst C dX12_isTrue_82 (v := 1) (by decide) ?_
              refine v_goto C 87 dX12_isTrue_83 (by decide) ?_
              exact K _ (by rw [bI_1 c2, Bool.or_true]; rfl)
end ML
