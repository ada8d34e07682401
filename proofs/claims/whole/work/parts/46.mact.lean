/-! ===== the reference: act ===== -/
theorem wfX12_act_168 : Cond.fieldLink RX12 168 "FieldScribeModel" (TX12 10).2.1 (TX12 10).2.2.1 ∈ wsX12_act := by decide +kernel
theorem wiX12_act_X12 : ∀ w ∈ u_ws RX12 TX12 34, w ∈ wsX12_act := by decide +kernel
theorem wfX12_act_39 : Cond.fieldLink RX12 39 "FieldScribeModel" (TX12 15).2.1 (TX12 15).2.2.1 ∈ wsX12_act := by decide +kernel
theorem wfX12_act_42 : Cond.fieldLink RX12 42 "FieldScribeModel" (TX12 16).2.1 (TX12 16).2.2.1 ∈ wsX12_act := by decide +kernel
theorem wfX12_act_45 : Cond.fieldLink RX12 45 "FieldScribeModel" (TX12 17).2.1 (TX12 17).2.2.1 ∈ wsX12_act := by decide +kernel
theorem wfX12_act_48 : Cond.fieldLink RX12 48 "FieldScribeModel" (TX12 18).2.1 (TX12 18).2.2.1 ∈ wsX12_act := by decide +kernel
theorem wfX12_act_51 : Cond.fieldLink RX12 51 "FieldScribeModel" (TX12 19).2.1 (TX12 19).2.2.1 ∈ wsX12_act := by decide +kernel
theorem wfX12_act_54 : Cond.fieldLink RX12 54 "FieldScribeModel" (TX12 20).2.1 (TX12 20).2.2.1 ∈ wsX12_act := by decide +kernel
section MAC
variable {l : Launch} {D : va_G} {tys : List (ClassId × FieldType)} {z0 : Nat} {A : Nat → Prop} {cI cZ : ClassId} {md : Nat} {ad : Nat → Nat} {I : Nat → Int32} {M : Nat → Nat → Int32} {rls : List Rl}
theorem isAc_eq (kd fd op x0 y0 : Int32) : isAc (kd, fd, op, x0, y0) = (isInB kd 0 4 && (isFd fd && (isInB op 0 4 && (isOpd x0 && isOpd y0)))) := by
  show (isInB kd 0 4 && isFd fd && (isInB op 0 4 && isOpd x0 && isOpd y0)) = _
  simp [Bool.and_assoc]
theorem isAc_ok {c : Ac} (h : isAc c = true) : acV c := by
  unfold isAc at h
  simp only [Bool.and_eq_true] at h
  exact ⟨isKd_ok h.1.1, isFd_nI h.1.2, isKd_ok h.2.1.1, isOpd_ok h.2.1.2, isOpd_ok h.2.2⟩
set_option maxRecDepth 100000 in
set_option maxHeartbeats 8000000 in
theorem m_act (ht1 : tys[1]? = some (cI, .int)) (hU : mRu I M rls) (z kd fd op x0 y0 : Int32) : ct D tys z0 A (picM D cI cZ md ad A) l yX12_act wsX12_act (rmL 2 42) [.ref md, .int z, .int kd, .int fd, .int op, .int x0, .int y0] (I, M) (qI (picM D cI cZ md ad A) A (fun q x => if 0 ≤ z ∧ z < nI rls.length then (if isAc (kd, fd, op, x0, y0) = true then (if (rls.getD z.toNatClampNeg rl0).2.2.length < 6 then ∃ I' M', x = (I', M') ∧ q = nI ((rls.getD z.toNatClampNeg rl0).2.2.length + 1) ∧ mRu I' M' (actR rls z.toNatClampNeg (kd, fd, op, x0, y0)) ∧ I' 33 = 0 ∧ mch [33] [15, 16, 17, 18, 19, 20] I M I' M' else x = (va_up I 33 3, M)) else x = (va_up I 33 2, M)) else x = (va_up I 33 1, M))) := by
  obtain ⟨u1, u2, u3, u4⟩ := hU
  have hin := isIn_n (z := z) (n := rls.length) (by omega)
  refine ct_of RX12 (by decide +kernel) rfl rfl (Nat.le_of_ble_eq_true rfl) ?_
  intro p e s m below meth c C hr hm
  refine v_lv (lv' := [(0, _), (1, _), (2, _), (3, _), (4, _), (5, _), (6, _)]) rfl ?_
  refine v_iload_n C dX12_act_0 (j := 1) rfl rfl ?_
  refine v_iconst C dX12_act_1 (v := 0) (by decide) ?_
  refine v_aload_n C dX12_act_2 (j := 0) rfl rfl ?_
  refine v_get C (T := TX12) (ci := 12) (j := 10) dX12_act_3 wiX12_act_X12 rfl (by decide) wfX12_act_168 (fun _ h => h) (M_int rfl (by decide)) ?_
  rw [u1]
  refine v_iconst C dX12_act_6 (v := 1) (by decide) ?_
  refine v_isub C dX12_act_7 ?_
  refine v_ci (v_runS C (m_isIn z 0 (nI rls.length - 1)) (va_cwS 3 C.1.2.2.2.2 gX12_act_X12_isIn rfl rfl rfl (by decide +kernel) ⟨Nat.le_of_ble_eq_true rfl, Nat.le_of_ble_eq_true rfl⟩) rfl dX12_act_8 (rest := []) (Nat.le_of_ble_eq_true rfl) rfl ⟨(by first | exact Nat.le_of_ble_eq_true rfl | (dsimp only; omega)), (by first | exact Nat.le_of_ble_eq_true rfl | (dsimp only; omega))⟩) (fun q x' hx' => ?_)
  obtain ⟨rfl, rfl⟩ := hx'
  refine v_istore C dX12_act_11 (by decide) (lv' := [(7, _), (0, _), (1, _), (2, _), (3, _), (4, _), (5, _), (6, _)]) rfl ?_
  refine v_cut (pcj := 60) (lvj := [(7, .int (bI (isInB z 0 (nI rls.length - 1)))), (0, .ref md), (1, .int z), (2, .int kd), (3, .int fd), (4, .int op), (5, .int x0), (6, .int y0)]) (stj := []) (fun w => w = bI (isAc (kd, fd, op, x0, y0))) (fun w hw => ?_) (fun K => ?_)
  · skip
    subst hw
    refine v_istore C dX12_act_60 (by decide) (lv' := [(8, _), (7, _), (0, _), (1, _), (2, _), (3, _), (4, _), (5, _), (6, _)]) rfl ?_
    refine v_aload_n C dX12_act_62 (j := 2) rfl rfl ?_
    refine v_iload C dX12_act_63 (j := 1) rfl ?_
    refine v_if_ne C 72 dX12_act_65 (by decide) (fun c1 => ?_) (fun c1 => ?_)
    · skip
      have hz := hin.mp (bI_1 c1)
      obtain ⟨k, hk, rfl⟩ := nI_of (Int32.not_lt.mpr hz.1)
      have hkl : k < rls.length := (nI_ltI hk (by omega)).mp hz.2
      have hkc : (nI k).toNatClampNeg = k := nI_clamp hk
      rw [hkc]
      refine v_iload C dX12_act_72 (j := 0) rfl ?_
      refine v_if_ne C 81 dX12_act_74 (by decide) (fun c2 => ?_) (fun c2 => ?_)
      · skip
        have hA := bI_1 c2
        have hu := u3 k hkl
        obtain ⟨Rr, hRr⟩ : ∃ Rr, Rr = rls.getD k rl0 := ⟨_, rfl⟩
        rw [← hRr] at hu ⊢
        obtain ⟨k1, k2, k3, k4, k5, k6, k7, k8, k9⟩ := hu
        refine v_aload_n C dX12_act_81 (j := 2) rfl rfl ?_
        refine v_get C (T := TX12) (ci := 12) (j := 15) dX12_act_82 wiX12_act_X12 rfl (by decide) wfX12_act_39 (fun _ h => h) (M_ref rfl (by decide)) ?_
        refine v_iload_n C dX12_act_85 (j := 3) rfl rfl ?_
        refine v_iald C dX12_act_86 1 ht1 (M_arr (j := 15) rfl) (vp_in_nI (by show k < 8; omega) (by decide)) ?_
        rw [hkc, k7]
        refine v_bipush C dX12_act_87 (v := 6) (by decide) ?_
        refine v_icmp_ne C 96 dX12_act_89 (by decide) (fun c3 => ?_) (fun c3 => ?_)
        · skip
          have c4 : Rr.2.2.length < 6 := by
              have : Rr.2.2.length ≠ 6 := fun y => c3 (by rw [y]; rfl)
              omega
          refine v_iconst C dX12_act_96 (v := 0) (by decide) ?_
          refine v_ci (v_runV C (m_fails 0) (cwV 1 C.1.2.2.2.2 gX12_act_X12_fails rfl rfl rfl (by decide +kernel) ⟨Nat.le_of_ble_eq_true rfl, Nat.le_of_ble_eq_true rfl⟩) rfl rfl (M_gC) dX12_act_97 (rest := []) (Nat.le_of_ble_eq_true rfl) rfl ⟨(by first | exact Nat.le_of_ble_eq_true rfl | (dsimp only; omega)), (by first | exact Nat.le_of_ble_eq_true rfl | (dsimp only; omega))⟩) (fun q x' hx' => ?_)
          obtain ⟨rfl, rfl⟩ := hx'
          refine v_if_eq C 105 dX12_act_100 (by decide) (fun c5 => ?_) (fun c5 => absurd c5 (by intro h; exact h (by decide)))
          refine v_bipush C dX12_act_105 (v := 6) (by decide) ?_
          refine v_iload_n C dX12_act_107 (j := 3) rfl rfl ?_
          refine v_imul C dX12_act_108 ?_
          refine v_int (b := nI (6 * k)) (nI_mul 6 k) ?_
          refine v_aload_n C dX12_act_109 (j := 2) rfl rfl ?_
          refine v_get C (T := TX12) (ci := 12) (j := 15) dX12_act_110 wiX12_act_X12 rfl (by decide) wfX12_act_39 (fun _ h => h) (M_ref rfl (by decide)) ?_
          refine v_iload_n C dX12_act_113 (j := 3) rfl rfl ?_
          refine v_iald C dX12_act_114 1 ht1 (M_arr (j := 15) rfl) (vp_in_nI (by show k < 8; omega) (by decide)) ?_
          rw [hkc, k7]
          refine v_iadd C dX12_act_115 ?_
          refine v_int (b := nI (6 * k + Rr.2.2.length)) (nI_add _ _) ?_
          refine v_istore C dX12_act_116 (by decide) (lv' := [(9, _), (8, _), (7, _), (0, _), (1, _), (2, _), (3, _), (4, _), (5, _), (6, _)]) rfl ?_
          refine v_aload_n C dX12_act_118 (j := 3) rfl rfl ?_
          refine v_get C (T := TX12) (ci := 12) (j := 16) dX12_act_119 wiX12_act_X12 rfl (by decide) wfX12_act_42 (fun _ h => h) (M_ref rfl (by decide)) ?_
          refine v_iload C dX12_act_122 (j := 0) rfl ?_
          refine v_iload_n C dX12_act_124 (j := 5) rfl rfl ?_
          refine v_iast C dX12_act_125 1 ht1 (vp_in_nI (by show 6 * k + Rr.2.2.length < 48; omega) (by decide)) (M_set (j := 16) rfl _) ?_
          refine v_aload_n C dX12_act_126 (j := 3) rfl rfl ?_
          refine v_get C (T := TX12) (ci := 12) (j := 17) dX12_act_127 wiX12_act_X12 rfl (by decide) wfX12_act_45 (fun _ h => h) (M_ref rfl (by decide)) ?_
          refine v_iload C dX12_act_130 (j := 0) rfl ?_
          refine v_iload_n C dX12_act_132 (j := 6) rfl rfl ?_
          refine v_iast C dX12_act_133 1 ht1 (vp_in_nI (by show 6 * k + Rr.2.2.length < 48; omega) (by decide)) (M_set (j := 17) rfl _) ?_
          refine v_aload_n C dX12_act_134 (j := 3) rfl rfl ?_
          refine v_get C (T := TX12) (ci := 12) (j := 18) dX12_act_135 wiX12_act_X12 rfl (by decide) wfX12_act_48 (fun _ h => h) (M_ref rfl (by decide)) ?_
          refine v_iload C dX12_act_138 (j := 0) rfl ?_
          refine v_iload C dX12_act_140 (j := 7) rfl ?_
          refine v_iast C dX12_act_142 1 ht1 (vp_in_nI (by show 6 * k + Rr.2.2.length < 48; omega) (by decide)) (M_set (j := 18) rfl _) ?_
          refine v_aload_n C dX12_act_143 (j := 3) rfl rfl ?_
          refine v_get C (T := TX12) (ci := 12) (j := 19) dX12_act_144 wiX12_act_X12 rfl (by decide) wfX12_act_51 (fun _ h => h) (M_ref rfl (by decide)) ?_
          refine v_iload C dX12_act_147 (j := 0) rfl ?_
          refine v_iload C dX12_act_149 (j := 8) rfl ?_
          refine v_iast C dX12_act_151 1 ht1 (vp_in_nI (by show 6 * k + Rr.2.2.length < 48; omega) (by decide)) (M_set (j := 19) rfl _) ?_
          refine v_aload_n C dX12_act_152 (j := 3) rfl rfl ?_
          refine v_get C (T := TX12) (ci := 12) (j := 20) dX12_act_153 wiX12_act_X12 rfl (by decide) wfX12_act_54 (fun _ h => h) (M_ref rfl (by decide)) ?_
          refine v_iload C dX12_act_156 (j := 0) rfl ?_
          refine v_iload C dX12_act_158 (j := 9) rfl ?_
          refine v_iast C dX12_act_160 1 ht1 (vp_in_nI (by show 6 * k + Rr.2.2.length < 48; omega) (by decide)) (M_set (j := 20) rfl _) ?_
          refine v_aload_n C dX12_act_161 (j := 3) rfl rfl ?_
          refine v_get C (T := TX12) (ci := 12) (j := 15) dX12_act_162 wiX12_act_X12 rfl (by decide) wfX12_act_39 (fun _ h => h) (M_ref rfl (by decide)) ?_
          refine v_iload_n C dX12_act_165 (j := 4) rfl rfl ?_
          refine v_dup2 C dX12_act_166 rfl rfl ?_
          refine v_iald C dX12_act_167 1 ht1 (M_arr (j := 15) rfl) (vp_in_nI (by show k < 8; omega) (by decide)) ?_
          refine v_int (b := nI Rr.2.2.length) (by rw [hkc, va_up_other _ _ _ (by decide), va_up_other _ _ _ (by decide), va_up_other _ _ _ (by decide), va_up_other _ _ _ (by decide), va_up_other _ _ _ (by decide)]; exact k7) ?_
          refine v_iconst C dX12_act_168 (v := 1) (by decide) ?_
          refine v_iadd C dX12_act_169 ?_
          rw [nI_1]
          refine v_iast C dX12_act_170 1 ht1 (vp_in_nI (by show k < 8; omega) (by decide)) (M_set (j := 15) rfl _) ?_
          refine v_aload_n C dX12_act_171 (j := 3) rfl rfl ?_
          refine v_get C (T := TX12) (ci := 12) (j := 15) dX12_act_172 wiX12_act_X12 rfl (by decide) wfX12_act_39 (fun _ h => h) (M_ref rfl (by decide)) ?_
          refine v_iload_n C dX12_act_175 (j := 4) rfl rfl ?_
          refine v_iald C dX12_act_176 1 ht1 (M_arr (j := 15) rfl) (vp_in_nI (by show k < 8; omega) (by decide)) ?_
          refine v_int (b := nI (Rr.2.2.length + 1)) (by rw [hkc, va_up_same]; unfold upd; rw [if_pos rfl]) ?_
          rw [show (nI (6 * k + Rr.2.2.length)).toNatClampNeg = 6 * k + Rr.2.2.length from nI_clamp (by omega), hkc]
          generalize hM9 : va_up (va_up (va_up (va_up (va_up (va_up M 16 _) 17 _) 18 _) 19 _) 20 _) 15 _ = M9
          have qo : ∀ j, j ∉ ([15, 16, 17, 18, 19, 20] : List Nat) → M9 j = M j := fun j hj => by
              rw [← hM9, va_up_other _ _ _ (fun z => hj (by rw [z]; decide)), va_up_other _ _ _ (fun z => hj (by rw [z]; decide)), va_up_other _ _ _ (fun z => hj (by rw [z]; decide)), va_up_other _ _ _ (fun z => hj (by rw [z]; decide)), va_up_other _ _ _ (fun z => hj (by rw [z]; decide)), va_up_other _ _ _ (fun z => hj (by rw [z]; decide))]
          have q15 : M9 15 = upd (M 15) k (nI (Rr.2.2.length + 1)) := by rw [← hM9]; simp [va_up]
          have q16 : M9 16 = upd (M 16) (6 * k + Rr.2.2.length) kd := by rw [← hM9]; simp [va_up]
          have q17 : M9 17 = upd (M 17) (6 * k + Rr.2.2.length) fd := by rw [← hM9]; simp [va_up]
          have q18 : M9 18 = upd (M 18) (6 * k + Rr.2.2.length) op := by rw [← hM9]; simp [va_up]
          have q19 : M9 19 = upd (M 19) (6 * k + Rr.2.2.length) x0 := by rw [← hM9]; simp [va_up]
          have q20 : M9 20 = upd (M 20) (6 * k + Rr.2.2.length) y0 := by rw [← hM9]; simp [va_up]
          have ho : ∀ i j c, 6 * i + j ≠ 6 * k + Rr.2.2.length → acM M (6 * i + j) c → acM M9 (6 * i + j) c := fun i j c hne h => by
              unfold acM at h ⊢
              rw [q16, q17, q18, q19, q20]
              unfold upd
              rw [if_neg hne, if_neg hne, if_neg hne, if_neg hne, if_neg hne]
              exact h
          have hRn : mRu (va_up I 33 0) M9 (actR rls k (kd, fd, op, x0, y0)) := by
              refine ⟨by rw [va_up_other _ _ _ (by decide), u1]; unfold actR; rw [List.length_set], by unfold actR; rw [List.length_set]; exact u2, fun i hi => ?_, fun i h1 h2 => ?_⟩
              · unfold actR at hi
                rw [List.length_set] at hi
                by_cases hik : i = k
                · subst hik
                  have e2 : (actR rls i (kd, fd, op, x0, y0)).getD i rl0 = (Rr.1, Rr.2.1, Rr.2.2 ++ [(kd, fd, op, x0, y0)]) := by unfold actR; rw [← hRr]; simp [List.getD_eq_getElem?_getD, hi]
                  rw [e2]
                  refine ⟨by rw [qo 11 (by decide)]; exact k1, by rw [qo 12 (by decide)]; exact k2, by rw [qo 13 (by decide)]; exact k3, by rw [qo 14 (by decide)]; exact k4, k5, k6, by rw [q15]; unfold upd; rw [if_pos rfl]; simp, by simp; omega, fun j hj => ?_⟩
                  simp only [List.length_append, List.length_singleton] at hj
                  by_cases hjl : j = Rr.2.2.length
                  · subst hjl
                    dsimp only
                    rw [getD_app2]
                    unfold acM
                    rw [q16, q17, q18, q19, q20]
                    unfold upd
                    rw [if_pos rfl, if_pos rfl, if_pos rfl, if_pos rfl, if_pos rfl]
                    exact ⟨rfl, rfl, rfl, rfl, rfl, isAc_ok hA⟩
                  · dsimp only
                    rw [getD_app1 (by omega)]
                    exact ho i j _ (by omega) (k9 j (by omega))
                · have e2 : (actR rls k (kd, fd, op, x0, y0)).getD i rl0 = rls.getD i rl0 := by unfold actR; simp [List.getD_eq_getElem?_getD, List.getElem?_set_ne (Ne.symm hik)]
                  rw [e2]
                  obtain ⟨m1, m2, m3, m4, m5, m6, m7, m8, m9⟩ := u3 i hi
                  exact ⟨by rw [qo 11 (by decide)]; exact m1, by rw [qo 12 (by decide)]; exact m2, by rw [qo 13 (by decide)]; exact m3, by rw [qo 14 (by decide)]; exact m4, m5, m6, by rw [q15]; unfold upd; rw [if_neg hik]; exact m7, m8, fun j hj => ho i j _ (by omega) (m9 j hj)⟩
              · unfold actR at h1
                rw [List.length_set] at h1
                rw [qo 14 (by decide), q15]
                unfold upd
                rw [if_neg (by omega)]
                exact u4 i h1 h2
          exact v_ireturn C dX12_act_177 hr (rfl) (Nat.le_of_ble_eq_true rfl) (Nat.le_of_ble_eq_true rfl) (by rw [if_pos hz, if_pos hA, if_pos c4]; exact ⟨_, M9, rfl, rfl, hRn, va_up_same _ _ _, ⟨fun j hj => va_up_other _ _ _ (fun z => hj (by rw [z]; decide)), qo⟩⟩)
        · skip
          have c4 : Rr.2.2.length = 6 := by have := congrArg Int32.toNatClampNeg c3; rw [nI_clamp (by omega)] at this; exact this
          refine v_iconst C dX12_act_92 (v := 3) (by decide) ?_
          refine v_goto C 97 dX12_act_93 (by decide) ?_
          refine v_ci (v_runV C (m_fails 3) (cwV 1 C.1.2.2.2.2 gX12_act_X12_fails rfl rfl rfl (by decide +kernel) ⟨Nat.le_of_ble_eq_true rfl, Nat.le_of_ble_eq_true rfl⟩) rfl rfl (M_gC) dX12_act_97 (rest := []) (Nat.le_of_ble_eq_true rfl) rfl ⟨(by first | exact Nat.le_of_ble_eq_true rfl | (dsimp only; omega)), (by first | exact Nat.le_of_ble_eq_true rfl | (dsimp only; omega))⟩) (fun q x' hx' => ?_)
          obtain ⟨rfl, rfl⟩ := hx'
          refine v_if_eq C 105 dX12_act_100 (by decide) (fun c5 => absurd c5 (by intro; exact absurd c5 (by decide))) (fun c5 => ?_)
          refine v_iconst C dX12_act_103 (v := 0) (by decide) ?_
          exact v_ireturn C dX12_act_104 hr (rfl) (Nat.le_of_ble_eq_true rfl) (Nat.le_of_ble_eq_true rfl) (by rw [if_pos hz, if_pos hA, if_neg (by omega)])
      · skip
        have hA := bI_0 c2
        refine v_iconst C dX12_act_77 (v := 2) (by decide) ?_
        refine v_goto C 97 dX12_act_78 (by decide) ?_
        refine v_ci (v_runV C (m_fails 2) (cwV 1 C.1.2.2.2.2 gX12_act_X12_fails rfl rfl rfl (by decide +kernel) ⟨Nat.le_of_ble_eq_true rfl, Nat.le_of_ble_eq_true rfl⟩) rfl rfl (M_gC) dX12_act_97 (rest := []) (Nat.le_of_ble_eq_true rfl) rfl ⟨(by first | exact Nat.le_of_ble_eq_true rfl | (dsimp only; omega)), (by first | exact Nat.le_of_ble_eq_true rfl | (dsimp only; omega))⟩) (fun q x' hx' => ?_)
        obtain ⟨rfl, rfl⟩ := hx'
        refine v_if_eq C 105 dX12_act_100 (by decide) (fun c5 => absurd c5 (by intro; exact absurd c5 (by decide))) (fun c5 => ?_)
        refine v_iconst C dX12_act_103 (v := 0) (by decide) ?_
        exact v_ireturn C dX12_act_104 hr (rfl) (Nat.le_of_ble_eq_true rfl) (Nat.le_of_ble_eq_true rfl) (by rw [if_pos hz, if_neg (by rw [hA]; decide)])
    · skip
      have hz : ¬ (0 ≤ z ∧ z < nI rls.length) := fun h => by have := hin.mpr h; rw [bI_0 c1] at this; cases this
      refine v_iconst C dX12_act_68 (v := 1) (by decide) ?_
      refine v_goto C 97 dX12_act_69 (by decide) ?_
      refine v_ci (v_runV C (m_fails 1) (cwV 1 C.1.2.2.2.2 gX12_act_X12_fails rfl rfl rfl (by decide +kernel) ⟨Nat.le_of_ble_eq_true rfl, Nat.le_of_ble_eq_true rfl⟩) rfl rfl (M_gC) dX12_act_97 (rest := []) (Nat.le_of_ble_eq_true rfl) rfl ⟨(by first | exact Nat.le_of_ble_eq_true rfl | (dsimp only; omega)), (by first | exact Nat.le_of_ble_eq_true rfl | (dsimp only; omega))⟩) (fun q x' hx' => ?_)
      obtain ⟨rfl, rfl⟩ := hx'
      refine v_if_eq C 105 dX12_act_100 (by decide) (fun c5 => absurd c5 (by intro; exact absurd c5 (by decide))) (fun c5 => ?_)
      refine v_iconst C dX12_act_103 (v := 0) (by decide) ?_
      exact v_ireturn C dX12_act_104 hr (rfl) (Nat.le_of_ble_eq_true rfl) (Nat.le_of_ble_eq_true rfl) (by rw [if_neg hz])
  · skip
    refine v_iload_n C dX12_act_13 (j := 3) rfl rfl ?_
    refine v_iconst C dX12_act_14 (v := 0) (by decide) ?_
    refine v_iconst C dX12_act_15 (v := 4) (by decide) ?_
    refine v_ci (v_runS C (m_isIn kd 0 4) (va_cwS 3 C.1.2.2.2.2 gX12_act_X12_isIn rfl rfl rfl (by decide +kernel) ⟨Nat.le_of_ble_eq_true rfl, Nat.le_of_ble_eq_true rfl⟩) rfl dX12_act_16 (rest := []) (Nat.le_of_ble_eq_true rfl) rfl ⟨(by first | exact Nat.le_of_ble_eq_true rfl | (dsimp only; omega)), (by first | exact Nat.le_of_ble_eq_true rfl | (dsimp only; omega))⟩) (fun q x' hx' => ?_)
    obtain ⟨rfl, rfl⟩ := hx'
    refine v_if_eq C 59 dX12_act_19 (by decide) (fun c1 => ?_) (fun c1 => ?_)
    · skip
      refine v_iconst C dX12_act_59 (v := 0) (by decide) ?_
      exact K _ (bI_f (by rw [isAc_eq, bI_0 c1]; rfl))
    · skip
      refine v_iload_n C dX12_act_22 (j := 4) rfl rfl ?_
      refine v_ci (v_runS C (m_isField fd) (va_cwS 1 C.1.2.2.2.2 gX12_act_X12_isField rfl rfl rfl (by decide +kernel) ⟨Nat.le_of_ble_eq_true rfl, Nat.le_of_ble_eq_true rfl⟩) rfl dX12_act_23 (rest := []) (Nat.le_of_ble_eq_true rfl) rfl ⟨(by first | exact Nat.le_of_ble_eq_true rfl | (dsimp only; omega)), (by first | exact Nat.le_of_ble_eq_true rfl | (dsimp only; omega))⟩) (fun q x' hx' => ?_)
      obtain ⟨rfl, rfl⟩ := hx'
      refine v_if_eq C 59 dX12_act_26 (by decide) (fun c2 => ?_) (fun c2 => ?_)
      · skip
        refine v_iconst C dX12_act_59 (v := 0) (by decide) ?_
        exact K _ (bI_f (by rw [isAc_eq, bI_1 c1, bI_0 c2]; rfl))
      · skip
        refine v_iload C dX12_act_29 (j := 5) rfl ?_
        refine v_iconst C dX12_act_31 (v := 0) (by decide) ?_
        refine v_iconst C dX12_act_32 (v := 4) (by decide) ?_
        refine v_ci (v_runS C (m_isIn op 0 4) (va_cwS 3 C.1.2.2.2.2 gX12_act_X12_isIn rfl rfl rfl (by decide +kernel) ⟨Nat.le_of_ble_eq_true rfl, Nat.le_of_ble_eq_true rfl⟩) rfl dX12_act_33 (rest := []) (Nat.le_of_ble_eq_true rfl) rfl ⟨(by first | exact Nat.le_of_ble_eq_true rfl | (dsimp only; omega)), (by first | exact Nat.le_of_ble_eq_true rfl | (dsimp only; omega))⟩) (fun q x' hx' => ?_)
        obtain ⟨rfl, rfl⟩ := hx'
        refine v_if_eq C 59 dX12_act_36 (by decide) (fun c3 => ?_) (fun c3 => ?_)
        · skip
          refine v_iconst C dX12_act_59 (v := 0) (by decide) ?_
          exact K _ (bI_f (by rw [isAc_eq, bI_1 c1, bI_1 c2, bI_0 c3]; rfl))
        · skip
          refine v_iload C dX12_act_39 (j := 6) rfl ?_
          refine v_ci (v_runS C (m_isOperand x0) (va_cwS 1 C.1.2.2.2.2 gX12_act_X12_isOperand rfl rfl rfl (by decide +kernel) ⟨Nat.le_of_ble_eq_true rfl, Nat.le_of_ble_eq_true rfl⟩) rfl dX12_act_41 (rest := []) (Nat.le_of_ble_eq_true rfl) rfl ⟨(by first | exact Nat.le_of_ble_eq_true rfl | (dsimp only; omega)), (by first | exact Nat.le_of_ble_eq_true rfl | (dsimp only; omega))⟩) (fun q x' hx' => ?_)
          obtain ⟨rfl, rfl⟩ := hx'
          refine v_if_eq C 59 dX12_act_44 (by decide) (fun c4 => ?_) (fun c4 => ?_)
          · skip
            refine v_iconst C dX12_act_59 (v := 0) (by decide) ?_
            exact K _ (bI_f (by rw [isAc_eq, bI_1 c1, bI_1 c2, bI_1 c3, bI_0 c4]; rfl))
          · skip
            refine v_iload C dX12_act_47 (j := 7) rfl ?_
            refine v_ci (v_runS C (m_isOperand y0) (va_cwS 1 C.1.2.2.2.2 gX12_act_X12_isOperand rfl rfl rfl (by decide +kernel) ⟨Nat.le_of_ble_eq_true rfl, Nat.le_of_ble_eq_true rfl⟩) rfl dX12_act_49 (rest := []) (Nat.le_of_ble_eq_true rfl) rfl ⟨(by first | exact Nat.le_of_ble_eq_true rfl | (dsimp only; omega)), (by first | exact Nat.le_of_ble_eq_true rfl | (dsimp only; omega))⟩) (fun q x' hx' => ?_)
            obtain ⟨rfl, rfl⟩ := hx'
            refine v_if_eq C 59 dX12_act_52 (by decide) (fun c5 => ?_) (fun c5 => ?_)
            · skip
              refine v_iconst C dX12_act_59 (v := 0) (by decide) ?_
              exact K _ (bI_f (by rw [isAc_eq, bI_1 c1, bI_1 c2, bI_1 c3, bI_1 c4, bI_0 c5]; rfl))
            · skip
              refine v_iconst C dX12_act_55 (v := 1) (by decide) ?_
              refine v_goto C 60 dX12_act_56 (by decide) ?_
              exact K _ (bI_t (by rw [isAc_eq, bI_1 c1, bI_1 c2, bI_1 c3, bI_1 c4, bI_1 c5]; rfl))
end MAC
