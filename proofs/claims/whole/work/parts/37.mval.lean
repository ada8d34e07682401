/-! ===== the reference: the value found ===== -/
theorem wfX12_numberOfValue_100 : Cond.fieldLink RX12 100 "FieldScribeModel" (TX12 29).2.1 (TX12 29).2.2.1 ∈ wsX12_numberOfValue := by decide +kernel
theorem wiX12_numberOfValue_X12 : ∀ w ∈ u_ws RX12 TX12 34, w ∈ wsX12_numberOfValue := by decide +kernel
theorem wfX12_numberOfValue_72 : Cond.fieldLink RX12 72 "FieldScribeModel" (TX12 28).2.1 (TX12 28).2.2.1 ∈ wsX12_numberOfValue := by decide +kernel
theorem wfX12_finds_94 : Cond.fieldLink RX12 94 "FieldScribeModel" (TX12 31).2.1 (TX12 31).2.2.1 ∈ wsX12_finds := by decide +kernel
theorem wiX12_finds_X12 : ∀ w ∈ u_ws RX12 TX12 34, w ∈ wsX12_finds := by decide +kernel
theorem wfX12_finds_51 : Cond.fieldLink RX12 51 "FieldScribeModel" (TX12 19).2.1 (TX12 19).2.2.1 ∈ wsX12_finds := by decide +kernel
theorem wfX12_finds_100 : Cond.fieldLink RX12 100 "FieldScribeModel" (TX12 29).2.1 (TX12 29).2.2.1 ∈ wsX12_finds := by decide +kernel
theorem wfX12_finds_72 : Cond.fieldLink RX12 72 "FieldScribeModel" (TX12 28).2.1 (TX12 28).2.2.1 ∈ wsX12_finds := by decide +kernel
theorem wfX12_finds_75 : Cond.fieldLink RX12 75 "FieldScribeModel" (TX12 30).2.1 (TX12 30).2.2.1 ∈ wsX12_finds := by decide +kernel
theorem wfX12_finds_48 : Cond.fieldLink RX12 48 "FieldScribeModel" (TX12 18).2.1 (TX12 18).2.2.1 ∈ wsX12_finds := by decide +kernel
theorem wfX12_finds_54 : Cond.fieldLink RX12 54 "FieldScribeModel" (TX12 20).2.1 (TX12 20).2.2.1 ∈ wsX12_finds := by decide +kernel
section MV
variable {l : Launch} {D : va_G} {tys : List (ClassId × FieldType)} {z0 : Nat} {A : Nat → Prop} {cI cZ : ClassId} {md : Nat} {ad : Nat → Nat} {I : Nat → Int32} {M : Nat → Nat → Int32} {sep rnum : Int32} {r u v : List Int32}
set_option maxRecDepth 100000 in
set_option maxHeartbeats 8000000 in
theorem m_numberOfValue (ht1 : tys[1]? = some (cI, .int)) (hv : mTx 29 28 I M v) : ct D tys z0 A (picM D cI cZ md ad A) l yX12_numberOfValue wsX12_numberOfValue (rmL 2 42) [.ref md] (I, M) (qI (picM D cI cZ md ad A) A (fun q x => x = (I, M) ∧ q = num v)) := by
  have h60 := hv.2.1
  have hst := nst_le v
  refine ct_of RX12 (by decide +kernel) rfl rfl (Nat.le_of_ble_eq_true rfl) ?_
  intro p e s m below meth c C hr hm
  refine v_lv (lv' := [(0, _)]) rfl ?_
  refine v_cut (pcj := 23) (lvj := [(0, .ref md)]) (stj := []) (fun w => w = nI (nst v)) (fun w hw => ?_) (fun K => ?_)
  · skip
    subst hw
    refine v_istore_n C dX12_numberOfValue_23 rfl (by decide) (lv' := [(1, _), (0, _)]) rfl ?_
    refine v_iconst C dX12_numberOfValue_24 (v := 0) (by decide) ?_
    refine v_istore_n C dX12_numberOfValue_25 rfl (by decide) (lv' := [(2, _), (1, _), (0, _)]) rfl ?_
    refine v_iload_n C dX12_numberOfValue_26 (j := 1) rfl rfl ?_
    refine v_istore_n C dX12_numberOfValue_27 rfl (by decide) (lv' := [(3, _), (2, _), (1, _), (0, _)]) rfl ?_
    obtain ⟨i, s9, hi, hs9, hrun, hv9, hi9, hil⟩ : ∃ (i : Nat) (s9 : Int32), i = 0 ∧ s9 = 0 ∧ nrun (v.drop (nst v)) 9 = i + nrun (v.drop (nst v + i)) (9 - i) ∧ nval (v.drop (nst v)) (nrun (v.drop (nst v)) 9) 0 = nval (v.drop (nst v + i)) (nrun (v.drop (nst v)) 9 - i) s9 ∧ i ≤ 9 ∧ nst v + i ≤ v.length := ⟨0, 0, rfl, rfl, by simp, rfl, by decide, by omega⟩
    refine v_lv (lv' := [(3, .int (nI (nst v + i))), (2, .int s9), (1, _), (0, _)]) (by rw [hi, hs9]; rfl) ?_
    clear hi hs9
    induction hd : (9 - i) using Nat.strongRecOn generalizing i s9 with | _ d ih =>
      refine v_cut0 (pcj := 77) (lvj := [(2, .int s9), (1, .int (nI (nst v)))]) (stj := []) (nrun (v.drop (nst v + i)) (9 - i) = 0) (fun hw => ?_) (fun K => ?_)
      · skip
        rw [hw, Nat.add_zero] at hrun
        rw [hrun, Nat.sub_self, nval_0] at hv9
        refine v_iload_n C dX12_numberOfValue_77 (j := 1) rfl rfl ?_
        refine v_iconst C dX12_numberOfValue_78 (v := 1) (by decide) ?_
        refine v_icmp_ne C 87 dX12_numberOfValue_79 (by decide) (fun c1 => ?_) (fun c1 => ?_)
        · skip
          have c2 : nst v ≠ 1 := fun z => c1 (by rw [z]; rfl)
          refine v_iload_n C dX12_numberOfValue_87 (j := 0) rfl rfl ?_
          exact v_ireturn C dX12_numberOfValue_88 hr (rfl) (Nat.le_of_ble_eq_true rfl) (Nat.le_of_ble_eq_true rfl) (⟨rfl, by unfold num; rw [if_neg c2, hrun, hv9]⟩)
        · skip
          have c2 : nst v = 1 := by have := congrArg Int32.toNatClampNeg c1; rw [nI_clamp (by omega)] at this; exact this
          refine v_iload_n C dX12_numberOfValue_82 (j := 0) rfl rfl ?_
          refine v_ineg C dX12_numberOfValue_83 ?_
          refine v_goto C 88 dX12_numberOfValue_84 (by decide) ?_
          exact v_ireturn C dX12_numberOfValue_88 hr (rfl) (Nat.le_of_ble_eq_true rfl) (Nat.le_of_ble_eq_true rfl) (⟨rfl, by unfold num; rw [if_pos c2, hrun, hv9]⟩)
      · skip
        refine v_iload_n C dX12_numberOfValue_28 (j := 0) rfl rfl ?_
        refine v_aload_n C dX12_numberOfValue_29 (j := 3) rfl rfl ?_
        refine v_get C (T := TX12) (ci := 12) (j := 29) dX12_numberOfValue_30 wiX12_numberOfValue_X12 rfl (by decide) wfX12_numberOfValue_100 (fun _ h => h) (M_int rfl (by decide)) ?_
        rw [hv.1]
        refine v_icmp_ge C 77 dX12_numberOfValue_33 (by decide) (fun c1 => ?_) (fun c1 => ?_)
        · skip
          refine v_sub [1, 2] rfl ?_
          exact K (nrun_end (le_of c1 (by omega) (by omega)))
        · skip
          have c2 : nst v + i < v.length := lt_ofn c1 (by omega) (by omega)
          refine v_iload_n C dX12_numberOfValue_36 (j := 0) rfl rfl ?_
          refine v_iload_n C dX12_numberOfValue_37 (j := 2) rfl rfl ?_
          refine v_bipush C dX12_numberOfValue_38 (v := 9) (by decide) ?_
          refine v_iadd C dX12_numberOfValue_40 ?_
          refine v_int (b := nI (nst v + 9)) (nI_add (nst v) 9) ?_
          refine v_icmp_ge C 77 dX12_numberOfValue_41 (by decide) (fun c3 => ?_) (fun c3 => ?_)
          · skip
            have c4 := le_of c3 (by omega) (by omega)
            refine v_sub [1, 2] rfl ?_
            exact K (by rw [show 9 - i = 0 by omega]; exact nrun_0 _)
          · skip
            have c4 : i < 9 := by have := lt_ofn c3 (by omega) (by omega); omega
            refine v_aload_n C dX12_numberOfValue_44 (j := 3) rfl rfl ?_
            refine v_get C (T := TX12) (ci := 12) (j := 28) dX12_numberOfValue_45 wiX12_numberOfValue_X12 rfl (by decide) wfX12_numberOfValue_72 (fun _ h => h) (M_ref rfl (by decide)) ?_
            refine v_iload_n C dX12_numberOfValue_48 (j := 0) rfl rfl ?_
            refine v_iald C dX12_numberOfValue_49 1 ht1 (M_arr (j := 28) rfl) (vp_in_nI (by show nst v + i < 60; omega) (by decide)) ?_
            refine v_int (b := v.getD (nst v + i) 0) (by rw [nI_clamp (by omega)]; exact hv.2.2 _ c2) ?_
            refine v_ci (v_runS C (m_isDigit (v.getD (nst v + i) 0)) (va_cwS 1 C.1.2.2.2.2 gX12_numberOfValue_X12_isDigit rfl rfl rfl (by decide +kernel) ⟨Nat.le_of_ble_eq_true rfl, Nat.le_of_ble_eq_true rfl⟩) rfl dX12_numberOfValue_50 (rest := []) (Nat.le_of_ble_eq_true rfl) rfl ⟨(by first | exact Nat.le_of_ble_eq_true rfl | (dsimp only; omega)), (by first | exact Nat.le_of_ble_eq_true rfl | (dsimp only; omega))⟩) (fun q x' hx' => ?_)
            obtain ⟨rfl, rfl⟩ := hx'
            have hstp := nrun_step (s := v) (j := nst v + i) (k := 8 - i) c2
            rw [show 8 - i + 1 = 9 - i by omega] at hstp
            refine v_if_eq C 77 dX12_numberOfValue_53 (by decide) (fun c5 => ?_) (fun c5 => ?_)
            · skip
              refine v_sub [1, 2] rfl ?_
              exact K (by rw [hstp, if_neg (by rw [bI_0 c5]; decide)])
            · skip
              rw [if_pos (bI_1 c5)] at hstp
              refine v_bipush C dX12_numberOfValue_56 (v := 10) (by decide) ?_
              refine v_iload_n C dX12_numberOfValue_58 (j := 1) rfl rfl ?_
              refine v_imul C dX12_numberOfValue_59 ?_
              refine v_aload_n C dX12_numberOfValue_60 (j := 3) rfl rfl ?_
              refine v_get C (T := TX12) (ci := 12) (j := 28) dX12_numberOfValue_61 wiX12_numberOfValue_X12 rfl (by decide) wfX12_numberOfValue_72 (fun _ h => h) (M_ref rfl (by decide)) ?_
              refine v_iload_n C dX12_numberOfValue_64 (j := 0) rfl rfl ?_
              refine v_iald C dX12_numberOfValue_65 1 ht1 (M_arr (j := 28) rfl) (vp_in_nI (by show nst v + i < 60; omega) (by decide)) ?_
              refine v_int (b := v.getD (nst v + i) 0) (by rw [nI_clamp (by omega)]; exact hv.2.2 _ c2) ?_
              refine v_iadd C dX12_numberOfValue_66 ?_
              refine v_bipush C dX12_numberOfValue_67 (v := 48) (by decide) ?_
              refine v_isub C dX12_numberOfValue_69 ?_
              rw [mul10]
              refine v_istore_n C dX12_numberOfValue_70 rfl (by decide) (lv' := [(2, _), (3, _), (1, _), (0, _)]) rfl ?_
              refine v_iinc C dX12_numberOfValue_71 (j := 1) (v := _ + 1) rfl rfl (by decide) (lv' := [(3, _), (2, _), (1, _), (0, _)]) rfl ?_
              refine v_goto C 28 dX12_numberOfValue_74 (by decide) ?_
              have hvs := nval_step (s := v) (j := nst v + i) (k := nrun (v.drop (nst v)) 9 - (i + 1)) (a := s9) c2
              have hge : i + 1 ≤ nrun (v.drop (nst v)) 9 := by rw [hrun, hstp]; omega
              rw [show nrun (v.drop (nst v)) 9 - (i + 1) + 1 = nrun (v.drop (nst v)) 9 - i by omega] at hvs
              refine v_lv (lv' := [(3, .int (nI (nst v + (i + 1)))), (2, .int (s9 * 10 + (v.getD (nst v + i) 0 - 48))), (1, _), (0, _)]) (by rw [nI_1]; rfl) ?_
              exact ih (9 - (i + 1)) (by omega) (i + 1) _ (by rw [hrun, hstp, show 9 - (i + 1) = 8 - i by omega, Nat.add_assoc (nst v) i 1]; omega) (by rw [hv9, hvs, Nat.add_assoc (nst v) i 1]) (by omega) (by omega) rfl
  · skip
    refine v_aload_n C dX12_numberOfValue_0 (j := 0) rfl rfl ?_
    refine v_get C (T := TX12) (ci := 12) (j := 29) dX12_numberOfValue_1 wiX12_numberOfValue_X12 rfl (by decide) wfX12_numberOfValue_100 (fun _ h => h) (M_int rfl (by decide)) ?_
    rw [hv.1]
    refine v_if_le C 22 dX12_numberOfValue_4 (by decide) (fun c1 => ?_) (fun c1 => ?_)
    · skip
      have c2 := (nI_leI (a := v.length) (b := 0) (by omega) (by decide)).mp c1
      refine v_iconst C dX12_numberOfValue_22 (v := 0) (by decide) ?_
      exact K _ (by rw [nst_nil (by omega)]; rfl)
    · skip
      have c2 : 0 < v.length := by rcases Nat.eq_zero_or_pos v.length with z | z; exact absurd (by rw [z]; exact Int32.le_refl _) c1; exact z
      refine v_aload_n C dX12_numberOfValue_7 (j := 0) rfl rfl ?_
      refine v_get C (T := TX12) (ci := 12) (j := 28) dX12_numberOfValue_8 wiX12_numberOfValue_X12 rfl (by decide) wfX12_numberOfValue_72 (fun _ h => h) (M_ref rfl (by decide)) ?_
      refine v_iconst C dX12_numberOfValue_11 (v := 0) (by decide) ?_
      refine v_iald C dX12_numberOfValue_12 1 ht1 (M_arr (j := 28) rfl) (by unfold vp_in; decide) ?_
      refine v_int (b := v.getD 0 0) (hv.2.2 0 c2) ?_
      refine v_bipush C dX12_numberOfValue_13 (v := 45) (by decide) ?_
      refine v_icmp_ne C 22 dX12_numberOfValue_15 (by decide) (fun c3 => ?_) (fun c3 => ?_)
      · skip
        refine v_iconst C dX12_numberOfValue_22 (v := 0) (by decide) ?_
        exact K _ (by rw [nst_at c2, if_neg c3]; rfl)
      · skip
        refine v_iconst C dX12_numberOfValue_18 (v := 1) (by decide) ?_
        refine v_goto C 23 dX12_numberOfValue_19 (by decide) ?_
        exact K _ (by rw [nst_at c2, if_pos c3]; rfl)
theorem opT_len (hR : mRec I M r) (hC : mCut I M sep r) (hn : ∃ N, N < 1000000000 ∧ rnum = nI N) {z : Int32} (hz : okOp z) : (opT sep r rnum z).length ≤ 60 := by
  have h60 := hR.2.1
  by_cases hf : isInB z (-13) (-1) = true
  · obtain ⟨k, hk, e1, e2⟩ := opT_f (sep := sep) (r := r) (rnum := rnum) hf
    obtain ⟨b1, e3, hb1, he1, hs1⟩ := be hR hC hk
    rw [e2, str_len hs1]
    have := hs1.2.1
    omega
  · rw [(opT_n (sep := sep) (r := r) (rnum := rnum) (op_in hz (by simpa using hf)) hn).1]
    have := dec_len (opN sep r rnum z)
    omega
set_option maxRecDepth 100000 in
set_option maxHeartbeats 16000000 in
theorem m_finds (ht1 : tys[1]? = some (cI, .int)) (hR : mRec I M r) (hC : mCut I M sep r) (h8 : I 8 = rnum) (hn : ∃ N, N < 1000000000 ∧ rnum = nI N) {at9 : Nat} (hat : at9 < 48) {op x0 y0 : Int32} (g1 : M 18 at9 = op) (g2 : M 19 at9 = x0) (g3 : M 20 at9 = y0) (hop : op = 0 ∨ op = 1 ∨ op = 2 ∨ op = 3 ∨ op = 4) (hx0 : okOp x0) (hy0 : okOp y0) : ct D tys z0 A (picM D cI cZ md ad A) l yX12_finds wsX12_finds (rmL 6 135) [.ref md, .int (nI at9)] (I, M) (qI (picM D cI cZ md ad A) A (fun q x => ∃ I' M', x = (I', M') ∧ q = num (exV sep r rnum op x0 y0) ∧ mTx 29 28 I' M' (exV sep r rnum op x0 y0) ∧ I' 9 = I 9 + exG sep r rnum op x0 y0 ∧ mch [9, 29, 31] [28, 30, 32] I M I' M')) := by
  have hlx := opT_len (rnum := rnum) hR hC hn hx0
  refine ct_of RX12 (by decide +kernel) rfl rfl (Nat.le_of_ble_eq_true rfl) ?_
  intro p e s m below meth c C hr hm
  refine v_lv (lv' := [(0, _), (1, _)]) rfl ?_
  refine v_cut0 (pcj := 19) (lvj := [(0, .ref md), (1, .int (nI at9))]) (stj := []) (op = 0 ∨ op = 4) (fun hw => ?_) (fun K => ?_)
  · skip
    have hG : exG sep r rnum op x0 y0 = 0 := by
        unfold exG
        rcases hw with q | q
        · rw [if_pos q]
        · rw [if_neg (by rw [q]; decide)]; unfold exF; rw [if_pos q]
    refine v_aload_n C dX12_finds_19 (j := 0) rfl rfl ?_
    refine v_iconst C dX12_finds_20 (v := 0) (by decide) ?_
    refine v_put C (T := TX12) (ci := 12) (j := 31) (ty := .int) dX12_finds_21 wiX12_finds_X12 tyX12 tyX12_ok nmX12 rfl (by decide) wfX12_finds_94 (fun _ h => h) rfl rfl (rfl) (rfl) (M_put rfl (by decide) _) ?_
    have c0 : mch [29, 31] [28, 30, 32] I M (va_up I 31 0) M := mch_I (by decide) _
    have m0 : mTx 31 30 (va_up I 31 0) M [] := ⟨va_up_same _ _ _, by decide, fun k hk => absurd hk (Nat.not_lt_zero k)⟩
    refine v_aload_n C dX12_finds_24 (j := 0) rfl rfl ?_
    refine v_aload_n C dX12_finds_25 (j := 0) rfl rfl ?_
    refine v_get C (T := TX12) (ci := 12) (j := 19) dX12_finds_26 wiX12_finds_X12 rfl (by decide) wfX12_finds_51 (fun _ h => h) (M_ref rfl (by decide)) ?_
    refine v_iload_n C dX12_finds_29 (j := 1) rfl rfl ?_
    refine v_iald C dX12_finds_30 1 ht1 (M_arr (j := 19) rfl) (vp_in_nI (by show at9 < 48; omega) (by decide)) ?_
    rw [nI_clamp (by omega), g2]
    refine v_cv (v_runV C (m_addsOperand (sep := sep) (r := r) (rnum := rnum) ht1 ⟨by rw [va_up_other _ _ _ (by decide)]; exact hR.1, hR.2⟩ (hC.ch c0 (by decide) (by decide) (by decide) (by decide)) (by rw [va_up_other _ _ _ (by decide)]; exact h8) hn hx0 m0) (cwV 1 C.1.2.2.2.2 gX12_finds_X12_addsOperand rfl rfl rfl (by decide +kernel) ⟨Nat.le_of_ble_eq_true rfl, Nat.le_of_ble_eq_true rfl⟩) rfl rfl (M_gC) dX12_finds_31 (rest := []) (Nat.le_of_ble_eq_true rfl) rfl ⟨(by first | exact Nat.le_of_ble_eq_true rfl | (dsimp only; omega)), (by first | exact Nat.le_of_ble_eq_true rfl | (dsimp only; omega))⟩) (fun x' hx' => ?_)
    obtain ⟨I2, M2, rfl, k1, k2⟩ := hx'
    have c2 := c0.tr k2
    have e60 : app60 [] (opT sep r rnum x0) = opT sep r rnum x0 := by unfold app60; rw [List.nil_append, List.take_of_length_le hlx]
    rw [e60] at k1
    refine v_cutX (pcj := 54) (fun w : mS => w) (fun _ => [(0, .ref md), (1, .int (nI at9))]) (fun _ => []) (fun w => mch [29, 31] [28, 30, 32] I M w.1 w.2 ∧ mTx 31 30 w.1 w.2 (exV sep r rnum op x0 y0)) (fun w hw => ?_) (fun K3 => ?_)
    · skip
      obtain ⟨I3, M3⟩ := w
      obtain ⟨w1, w2⟩ := hw
      dsimp only at w1 w2
      have w60 := w2.2.1
      refine v_aload_n C dX12_finds_54 (j := 0) rfl rfl ?_
      refine v_aload_n C dX12_finds_55 (j := 0) rfl rfl ?_
      refine v_get C (T := TX12) (ci := 12) (j := 31) dX12_finds_56 wiX12_finds_X12 rfl (by decide) wfX12_finds_94 (fun _ h => h) (M_int rfl (by decide)) ?_
      rw [w2.1]
      refine v_put C (T := TX12) (ci := 12) (j := 29) (ty := .int) dX12_finds_59 wiX12_finds_X12 tyX12 tyX12_ok nmX12 rfl (by decide) wfX12_finds_100 (fun _ h => h) rfl rfl (rfl) (rfl) (M_put rfl (by decide) _) ?_
      refine v_iconst C dX12_finds_62 (v := 0) (by decide) ?_
      refine v_istore_n C dX12_finds_63 rfl (by decide) (lv' := [(2, _), (0, _), (1, _)]) rfl ?_
      obtain ⟨k, I4, M4, hk, f1, f2, hc, h29, hm4, hcp⟩ : ∃ (k : Nat) (I4 : Nat → Int32) (M4 : Nat → Nat → Int32), k = 0 ∧ I4 = va_up I3 29 (nI (exV sep r rnum op x0 y0).length) ∧ M4 = M3 ∧ mch [29, 31] [28, 30, 32] I M I4 M4 ∧ I4 29 = nI (exV sep r rnum op x0 y0).length ∧ mTx 31 30 I4 M4 (exV sep r rnum op x0 y0) ∧ ∀ j, j < k → M4 28 j = (exV sep r rnum op x0 y0).getD j 0 := ⟨0, _, M3, rfl, rfl, rfl, w1.tr (mch_I (by decide) _), va_up_same _ _ _, ⟨by rw [va_up_other _ _ _ (by decide)]; exact w2.1, w2.2⟩, fun j hj => absurd hj (Nat.not_lt_zero j)⟩
      refine v_x (x' := (I4, M4)) (fun H hP => by rw [f1, f2]; exact hP) ?_
      refine v_lv (lv' := [(2, .int (nI k)), (0, _), (1, _)]) (by rw [hk]; rfl) ?_
      have hkl : k ≤ (exV sep r rnum op x0 y0).length := by omega
      clear hk f1 f2 w1 w2
      induction hd : ((exV sep r rnum op x0 y0).length - k) using Nat.strongRecOn generalizing I4 M4 k with | _ d ih =>
        refine v_iload_n C dX12_finds_64 (j := 0) rfl rfl ?_
        refine v_aload_n C dX12_finds_65 (j := 1) rfl rfl ?_
        refine v_get C (T := TX12) (ci := 12) (j := 31) dX12_finds_66 wiX12_finds_X12 rfl (by decide) wfX12_finds_94 (fun _ h => h) (M_int rfl (by decide)) ?_
        rw [hm4.1]
        refine v_icmp_ge C 90 dX12_finds_69 (by decide) (fun c5 => ?_) (fun c5 => ?_)
        · skip
          have c6 : k = (exV sep r rnum op x0 y0).length := by have := le_of c5 (by omega) (by omega); omega
          subst c6
          have hv9 : mTx 29 28 I4 M4 (exV sep r rnum op x0 y0) := ⟨h29, w60, hcp⟩
          refine v_aload_n C dX12_finds_90 (j := 1) rfl rfl ?_
          refine v_ci (v_runV C (m_numberOfValue ht1 hv9) (cwV 0 C.1.2.2.2.2 gX12_finds_X12_numberOfValue rfl rfl rfl (by decide +kernel) ⟨Nat.le_of_ble_eq_true rfl, Nat.le_of_ble_eq_true rfl⟩) rfl rfl (M_gC) dX12_finds_91 (rest := []) (Nat.le_of_ble_eq_true rfl) rfl ⟨(by first | exact Nat.le_of_ble_eq_true rfl | (dsimp only; omega)), (by first | exact Nat.le_of_ble_eq_true rfl | (dsimp only; omega))⟩) (fun q x' hx' => ?_)
          obtain ⟨rfl, rfl⟩ := hx'
          exact v_ireturn C dX12_finds_94 hr (rfl) (Nat.le_of_ble_eq_true rfl) (Nat.le_of_ble_eq_true rfl) (⟨I4, M4, rfl, rfl, hv9, by rw [hG, hc.1 9 (by decide)]; simp, hc.mo (by decide) (by decide)⟩)
        · skip
          have c6 : k < (exV sep r rnum op x0 y0).length := lt_ofn c5 (by omega) (by omega)
          refine v_aload_n C dX12_finds_72 (j := 1) rfl rfl ?_
          refine v_get C (T := TX12) (ci := 12) (j := 28) dX12_finds_73 wiX12_finds_X12 rfl (by decide) wfX12_finds_72 (fun _ h => h) (M_ref rfl (by decide)) ?_
          refine v_iload_n C dX12_finds_76 (j := 0) rfl rfl ?_
          refine v_aload_n C dX12_finds_77 (j := 1) rfl rfl ?_
          refine v_get C (T := TX12) (ci := 12) (j := 30) dX12_finds_78 wiX12_finds_X12 rfl (by decide) wfX12_finds_75 (fun _ h => h) (M_ref rfl (by decide)) ?_
          refine v_iload_n C dX12_finds_81 (j := 0) rfl rfl ?_
          refine v_iald C dX12_finds_82 1 ht1 (M_arr (j := 30) rfl) (vp_in_nI (by show k < 60; omega) (by decide)) ?_
          refine v_int (b := (exV sep r rnum op x0 y0).getD k 0) (by rw [nI_clamp (by omega)]; exact hm4.2.2 k c6) ?_
          refine v_iast C dX12_finds_83 1 ht1 (vp_in_nI (by show k < 60; omega) (by decide)) (M_set (j := 28) rfl _) ?_
          rw [nI_clamp (by omega)]
          refine v_iinc C dX12_finds_84 (j := 0) (v := _ + 1) rfl rfl (by decide) (lv' := [(2, _), (0, _), (1, _)]) rfl ?_
          refine v_goto C 64 dX12_finds_87 (by decide) ?_
          rw [nI_1]
          exact ih ((exV sep r rnum op x0 y0).length - (k + 1)) (by omega) (k + 1) _ _ (hc.tr (mch_M (by decide) _)) h29 (hm4.ch (js := []) (ks := [28]) (mch_M (by decide) _) (by decide) (by decide)) (fun j hj => by rw [va_up_same]; unfold upd; by_cases hjk : j = k; rw [if_pos hjk, hjk]; rw [if_neg hjk]; exact hcp j (by omega)) (by omega) rfl
    · skip
      refine v_aload_n C dX12_finds_34 (j := 0) rfl rfl ?_
      refine v_get C (T := TX12) (ci := 12) (j := 18) dX12_finds_35 wiX12_finds_X12 rfl (by decide) wfX12_finds_48 (fun _ h => h) (M_ref rfl (by decide)) ?_
      refine v_iload_n C dX12_finds_38 (j := 1) rfl rfl ?_
      refine v_iald C dX12_finds_39 1 ht1 (M_arr (j := 18) rfl) (vp_in_nI (by show at9 < 48; omega) (by decide)) ?_
      refine v_int (b := op) (by rw [nI_clamp (by omega), c2.2 18 (by decide)]; exact g1) ?_
      refine v_iconst C dX12_finds_40 (v := 4) (by decide) ?_
      refine v_icmp_ne C 54 dX12_finds_41 (by decide) (fun c3 => ?_) (fun c3 => ?_)
      · skip
        have hop0 : op = 0 := by rcases hw with q | q; exact q; exact absurd q c3
        exact K3 (I2, M2) ⟨c2, by unfold exV; rw [if_pos hop0]; exact k1⟩
      · skip
        refine v_aload_n C dX12_finds_44 (j := 0) rfl rfl ?_
        refine v_aload_n C dX12_finds_45 (j := 0) rfl rfl ?_
        refine v_get C (T := TX12) (ci := 12) (j := 20) dX12_finds_46 wiX12_finds_X12 rfl (by decide) wfX12_finds_54 (fun _ h => h) (M_ref rfl (by decide)) ?_
        refine v_iload_n C dX12_finds_49 (j := 1) rfl rfl ?_
        refine v_iald C dX12_finds_50 1 ht1 (M_arr (j := 20) rfl) (vp_in_nI (by show at9 < 48; omega) (by decide)) ?_
        refine v_int (b := y0) (by rw [nI_clamp (by omega), c2.2 20 (by decide)]; exact g3) ?_
        refine v_cv (v_runV C (m_addsOperand (sep := sep) (r := r) (rnum := rnum) ht1 ⟨by rw [c2.1 2 (by decide)]; exact hR.1, hR.2.1, fun j hj => by rw [c2.2 1 (by decide)]; exact hR.2.2 j hj⟩ (hC.ch c2 (by decide) (by decide) (by decide) (by decide)) (by rw [c2.1 8 (by decide)]; exact h8) hn hy0 k1) (cwV 1 C.1.2.2.2.2 gX12_finds_X12_addsOperand rfl rfl rfl (by decide +kernel) ⟨Nat.le_of_ble_eq_true rfl, Nat.le_of_ble_eq_true rfl⟩) rfl rfl (M_gC) dX12_finds_51 (rest := []) (Nat.le_of_ble_eq_true rfl) rfl ⟨(by first | exact Nat.le_of_ble_eq_true rfl | (dsimp only; omega)), (by first | exact Nat.le_of_ble_eq_true rfl | (dsimp only; omega))⟩) (fun x' hx' => ?_)
        obtain ⟨I3, M3, rfl, k3, k4⟩ := hx'
        exact K3 (I3, M3) ⟨c2.tr k4, by unfold exV; rw [if_neg (by rw [c3]; decide)]; unfold exT; rw [if_pos c3]; exact k3⟩
  · skip
    refine v_aload_n C dX12_finds_0 (j := 0) rfl rfl ?_
    refine v_get C (T := TX12) (ci := 12) (j := 18) dX12_finds_1 wiX12_finds_X12 rfl (by decide) wfX12_finds_48 (fun _ h => h) (M_ref rfl (by decide)) ?_
    refine v_iload_n C dX12_finds_4 (j := 1) rfl rfl ?_
    refine v_iald C dX12_finds_5 1 ht1 (M_arr (j := 18) rfl) (vp_in_nI (by show at9 < 48; omega) (by decide)) ?_
    rw [nI_clamp (by omega), g1]
    refine v_if_eq C 19 dX12_finds_6 (by decide) (fun c1 => ?_) (fun c1 => ?_)
    · skip
      exact K (Or.inl c1)
    · skip
      refine v_aload_n C dX12_finds_9 (j := 0) rfl rfl ?_
      refine v_get C (T := TX12) (ci := 12) (j := 18) dX12_finds_10 wiX12_finds_X12 rfl (by decide) wfX12_finds_48 (fun _ h => h) (M_ref rfl (by decide)) ?_
      refine v_iload_n C dX12_finds_13 (j := 1) rfl rfl ?_
      refine v_iald C dX12_finds_14 1 ht1 (M_arr (j := 18) rfl) (vp_in_nI (by show at9 < 48; omega) (by decide)) ?_
      rw [nI_clamp (by omega), g1]
      refine v_iconst C dX12_finds_15 (v := 4) (by decide) ?_
      refine v_icmp_ne C 95 dX12_finds_16 (by decide) (fun c2 => ?_) (fun c2 => ?_)
      · skip
        have eV : exV sep r rnum op x0 y0 = dec (fitI (calO op (num (opT sep r rnum x0)).toInt64 (num (opT sep r rnum y0)).toInt64)) := by unfold exV exT; rw [if_neg c1, if_neg c2]
        have eG : exG sep r rnum op x0 y0 = fltI (calO op (num (opT sep r rnum x0)).toInt64 (num (opT sep r rnum y0)).toInt64) := by unfold exG exF; rw [if_neg c1, if_neg c2]
        refine v_aload_n C dX12_finds_95 (j := 0) rfl rfl ?_
        refine v_aload_n C dX12_finds_96 (j := 0) rfl rfl ?_
        refine v_get C (T := TX12) (ci := 12) (j := 19) dX12_finds_97 wiX12_finds_X12 rfl (by decide) wfX12_finds_51 (fun _ h => h) (M_ref rfl (by decide)) ?_
        refine v_iload_n C dX12_finds_100 (j := 1) rfl rfl ?_
        refine v_iald C dX12_finds_101 1 ht1 (M_arr (j := 19) rfl) (vp_in_nI (by show at9 < 48; omega) (by decide)) ?_
        rw [nI_clamp (by omega), g2]
        refine v_ci (v_runV C (m_numberOfOperand ht1 hR hC h8 hn hx0) (cwV 1 C.1.2.2.2.2 gX12_finds_X12_numberOfOperand rfl rfl rfl (by decide +kernel) ⟨Nat.le_of_ble_eq_true rfl, Nat.le_of_ble_eq_true rfl⟩) rfl rfl (M_gC) dX12_finds_102 (rest := []) (Nat.le_of_ble_eq_true rfl) rfl ⟨(by first | exact Nat.le_of_ble_eq_true rfl | (dsimp only; omega)), (by first | exact Nat.le_of_ble_eq_true rfl | (dsimp only; omega))⟩) (fun q x' hx' => ?_)
        obtain ⟨rfl, rfl, -⟩ := hx'
        refine v_i2l C dX12_finds_105 ?_
        refine v_lstore_n C dX12_finds_106 rfl (by decide) (lv' := [(2, _), (0, _), (1, _)]) rfl ?_
        refine v_aload_n C dX12_finds_107 (j := 1) rfl rfl ?_
        refine v_aload_n C dX12_finds_108 (j := 1) rfl rfl ?_
        refine v_get C (T := TX12) (ci := 12) (j := 20) dX12_finds_109 wiX12_finds_X12 rfl (by decide) wfX12_finds_54 (fun _ h => h) (M_ref rfl (by decide)) ?_
        refine v_iload_n C dX12_finds_112 (j := 2) rfl rfl ?_
        refine v_iald C dX12_finds_113 1 ht1 (M_arr (j := 20) rfl) (vp_in_nI (by show at9 < 48; omega) (by decide)) ?_
        rw [nI_clamp (by omega), g3]
        refine v_ci (v_runV C (m_numberOfOperand ht1 hR hC h8 hn hy0) (cwV 1 C.1.2.2.2.2 gX12_finds_X12_numberOfOperand rfl rfl rfl (by decide +kernel) ⟨Nat.le_of_ble_eq_true rfl, Nat.le_of_ble_eq_true rfl⟩) rfl rfl (M_gC) dX12_finds_114 (rest := []) (Nat.le_of_ble_eq_true rfl) rfl ⟨(by first | exact Nat.le_of_ble_eq_true rfl | (dsimp only; omega)), (by first | exact Nat.le_of_ble_eq_true rfl | (dsimp only; omega))⟩) (fun q x' hx' => ?_)
        obtain ⟨rfl, rfl, -⟩ := hx'
        refine v_cut0 (pcj := 158) (lvj := [(0, .ref md), (1, .int (nI at9))]) (stj := [.long (calO op (num (opT sep r rnum x0)).toInt64 (num (opT sep r rnum y0)).toInt64)]) True (fun _ => ?_) (fun K4 => ?_)
        · skip
          refine v_lstore C dX12_finds_158 (by decide) (lv' := [(6, _), (0, _), (1, _)]) rfl ?_
          refine v_aload_n C dX12_finds_160 (j := 1) rfl rfl ?_
          refine v_lload C dX12_finds_161 (j := 0) rfl ?_
          refine v_ci (v_runV C (m_fits (calO op (num (opT sep r rnum x0)).toInt64 (num (opT sep r rnum y0)).toInt64)) (cwV 1 C.1.2.2.2.2 gX12_finds_X12_fits rfl rfl rfl (by decide +kernel) ⟨Nat.le_of_ble_eq_true rfl, Nat.le_of_ble_eq_true rfl⟩) rfl rfl (M_gC) dX12_finds_163 (rest := []) (Nat.le_of_ble_eq_true rfl) rfl ⟨(by first | exact Nat.le_of_ble_eq_true rfl | (dsimp only; omega)), (by first | exact Nat.le_of_ble_eq_true rfl | (dsimp only; omega))⟩) (fun q x' hx' => ?_)
          obtain ⟨rfl, rfl⟩ := hx'
          refine v_istore C dX12_finds_166 (by decide) (lv' := [(8, _), (6, _), (0, _), (1, _)]) rfl ?_
          refine v_aload_n C dX12_finds_168 (j := 2) rfl rfl ?_
          refine v_iload C dX12_finds_169 (j := 0) rfl ?_
          refine v_cv (v_runV C (m_writes ht1 (fitI (calO op (num (opT sep r rnum x0)).toInt64 (num (opT sep r rnum y0)).toInt64))) (cwV 1 C.1.2.2.2.2 gX12_finds_X12_writes rfl rfl rfl (by decide +kernel) ⟨Nat.le_of_ble_eq_true rfl, Nat.le_of_ble_eq_true rfl⟩) rfl rfl (M_gC) dX12_finds_171 (rest := []) (Nat.le_of_ble_eq_true rfl) rfl ⟨(by first | exact Nat.le_of_ble_eq_true rfl | (dsimp only; omega)), (by first | exact Nat.le_of_ble_eq_true rfl | (dsimp only; omega))⟩) (fun x' hx' => ?_)
          obtain ⟨I3, M3, rfl, k3, k4⟩ := hx'
          rw [← eV] at k3
          refine v_aload_n C dX12_finds_174 (j := 2) rfl rfl ?_
          refine v_ci (v_runV C (m_numberOfValue ht1 k3) (cwV 0 C.1.2.2.2.2 gX12_finds_X12_numberOfValue rfl rfl rfl (by decide +kernel) ⟨Nat.le_of_ble_eq_true rfl, Nat.le_of_ble_eq_true rfl⟩) rfl rfl (M_gC) dX12_finds_175 (rest := []) (Nat.le_of_ble_eq_true rfl) rfl ⟨(by first | exact Nat.le_of_ble_eq_true rfl | (dsimp only; omega)), (by first | exact Nat.le_of_ble_eq_true rfl | (dsimp only; omega))⟩) (fun q x' hx' => ?_)
          obtain ⟨rfl, rfl⟩ := hx'
          exact v_ireturn C dX12_finds_178 hr (rfl) (Nat.le_of_ble_eq_true rfl) (Nat.le_of_ble_eq_true rfl) (⟨I3, M3, rfl, rfl, k3, by rw [k4.1 9 (by decide), va_up_same, eG], (mch_I (by decide) _).tr (k4.mo (by decide) (by decide))⟩)
        · skip
          refine v_i2l C dX12_finds_117 ?_
          refine v_lstore C dX12_finds_118 (by decide) (lv' := [(4, _), (2, _), (0, _), (1, _)]) rfl ?_
          refine v_aload_n C dX12_finds_120 (j := 2) rfl rfl ?_
          refine v_get C (T := TX12) (ci := 12) (j := 18) dX12_finds_121 wiX12_finds_X12 rfl (by decide) wfX12_finds_48 (fun _ h => h) (M_ref rfl (by decide)) ?_
          refine v_iload_n C dX12_finds_124 (j := 3) rfl rfl ?_
          refine v_iald C dX12_finds_125 1 ht1 (M_arr (j := 18) rfl) (vp_in_nI (by show at9 < 48; omega) (by decide)) ?_
          rw [nI_clamp (by omega), g1]
          refine v_iconst C dX12_finds_126 (v := 1) (by decide) ?_
          refine v_icmp_ne C 137 dX12_finds_127 (by decide) (fun c3 => ?_) (fun c3 => ?_)
          · skip
            refine v_aload_n C dX12_finds_137 (j := 2) rfl rfl ?_
            refine v_get C (T := TX12) (ci := 12) (j := 18) dX12_finds_138 wiX12_finds_X12 rfl (by decide) wfX12_finds_48 (fun _ h => h) (M_ref rfl (by decide)) ?_
            refine v_iload_n C dX12_finds_141 (j := 3) rfl rfl ?_
            refine v_iald C dX12_finds_142 1 ht1 (M_arr (j := 18) rfl) (vp_in_nI (by show at9 < 48; omega) (by decide)) ?_
            rw [nI_clamp (by omega), g1]
            refine v_iconst C dX12_finds_143 (v := 2) (by decide) ?_
            refine v_icmp_ne C 154 dX12_finds_144 (by decide) (fun c4 => ?_) (fun c4 => ?_)
            · skip
              have c5 : op = 3 := by rcases hop with q | q | q | q | q; exact absurd q c1; exact absurd q c3; exact absurd q c4; exact q; exact absurd q c2
              refine v_lload_n C dX12_finds_154 (j := 1) rfl rfl ?_
              refine v_lload C dX12_finds_155 (j := 0) rfl ?_
              refine v_lmul C dX12_finds_157 ?_
              refine v_long (b := calO op (num (opT sep r rnum x0)).toInt64 (num (opT sep r rnum y0)).toInt64) (by unfold calO; rw [if_neg c3, if_neg c4, if_pos c5]) ?_
              exact v_sub [2, 3] rfl (K4 trivial)
            · skip
              refine v_lload_n C dX12_finds_147 (j := 1) rfl rfl ?_
              refine v_lload C dX12_finds_148 (j := 0) rfl ?_
              refine v_lsub C dX12_finds_150 ?_
              refine v_goto C 158 dX12_finds_151 (by decide) ?_
              refine v_long (b := calO op (num (opT sep r rnum x0)).toInt64 (num (opT sep r rnum y0)).toInt64) (by unfold calO; rw [if_neg c3, if_pos c4]) ?_
              exact v_sub [2, 3] rfl (K4 trivial)
          · skip
            refine v_lload_n C dX12_finds_130 (j := 1) rfl rfl ?_
            refine v_lload C dX12_finds_131 (j := 0) rfl ?_
            refine v_ladd C dX12_finds_133 ?_
            refine v_goto C 158 dX12_finds_134 (by decide) ?_
            refine v_long (b := calO op (num (opT sep r rnum x0)).toInt64 (num (opT sep r rnum y0)).toInt64) (by unfold calO; rw [if_pos c3]) ?_
            exact v_sub [2, 3] rfl (K4 trivial)
      · skip
        exact K (Or.inr c2)
end MV
