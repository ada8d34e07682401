/-! ===== the reference: rule ===== -/
theorem wfX12_rule_168 : Cond.fieldLink RX12 168 "FieldScribeModel" (TX12 10).2.1 (TX12 10).2.2.1 ∈ wsX12_rule := by decide +kernel
theorem wiX12_rule_X12 : ∀ w ∈ u_ws RX12 TX12 34, w ∈ wsX12_rule := by decide +kernel
theorem wfX12_rule_26 : Cond.fieldLink RX12 26 "FieldScribeModel" (TX12 11).2.1 (TX12 11).2.2.1 ∈ wsX12_rule := by decide +kernel
theorem wfX12_rule_29 : Cond.fieldLink RX12 29 "FieldScribeModel" (TX12 12).2.1 (TX12 12).2.2.1 ∈ wsX12_rule := by decide +kernel
theorem wfX12_rule_32 : Cond.fieldLink RX12 32 "FieldScribeModel" (TX12 13).2.1 (TX12 13).2.2.1 ∈ wsX12_rule := by decide +kernel
section MRL
variable {l : Launch} {D : va_G} {tys : List (ClassId × FieldType)} {z0 : Nat} {A : Nat → Prop} {cI cZ : ClassId} {md : Nat} {ad : Nat → Nat} {I : Nat → Int32} {M : Nat → Nat → Int32} {rls : List Rl}
theorem pat_in {p : Int32} (h : isInB p 0 3 = true) : p = 0 ∨ p = 1 ∨ p = 2 ∨ p = 3 := by
  unfold isInB at h
  rw [Bool.and_eq_true] at h
  obtain ⟨k, hk, rfl⟩ := nI_of2 (M := 3) (n := 3) rfl (Int32.not_lt.mpr (of_decide_eq_true h.1)) (of_decide_eq_true h.2)
  have : ∀ k : Fin 4, nI k.val = 0 ∨ nI k.val = 1 ∨ nI k.val = 2 ∨ nI k.val = 3 := by decide
  exact this ⟨k, by omega⟩
theorem pat_out {p a b : Int32} (h : isInB p 0 3 = false) : isPat p a b = false := by
  unfold isPat
  rw [if_neg (fun z => by rw [z] at h; cases h), if_neg (fun z => by rw [z] at h; cases h), if_neg (fun z => by rw [z] at h; cases h), if_neg (fun z => by rw [z] at h; cases h)]
theorem pat_eq {p a b : Int32} (h : isInB p 0 3 = true) (h0 : p ≠ 0) : isPat p a b = (isInB a 0 (if p = 3 then 9999 else 12) && isInB b 0 (if p = 2 then 12 else 9999)) := by
  rcases pat_in h with q | q | q | q
  · exact absurd q h0
  · rw [q]; rfl
  · rw [q]; rfl
  · rw [q]; rfl
set_option maxRecDepth 100000 in
set_option maxHeartbeats 8000000 in
theorem m_rule (ht1 : tys[1]? = some (cI, .int)) (hU : mRu I M rls) (pat a b : Int32) : ct D tys z0 A (picM D cI cZ md ad A) l yX12_rule wsX12_rule (rmL 1 22) [.ref md, .int pat, .int a, .int b] (I, M) (qI (picM D cI cZ md ad A) A (fun q x => if isPat pat a b = true then (if rls.length < 8 then ∃ I' M', x = (I', M') ∧ q = nI rls.length ∧ mRu I' M' (rls ++ [((pat, a, b), false, [])]) ∧ I' 33 = 0 ∧ mch [10, 33] [11, 12, 13] I M I' M' else x = (va_up I 33 2, M)) else x = (va_up I 33 1, M))) := by
  obtain ⟨u1, u2, u3, u4⟩ := hU
  refine ct_of RX12 (by decide +kernel) rfl rfl (Nat.le_of_ble_eq_true rfl) ?_
  intro p e s m below meth c C hr hm
  refine v_lv (lv' := [(0, _), (1, _), (2, _), (3, _)]) rfl ?_
  refine v_cut (pcj := 60) (lvj := [(0, .ref md), (1, .int pat), (2, .int a), (3, .int b)]) (stj := []) (fun w => w = bI (isPat pat a b)) (fun w hw => ?_) (fun K => ?_)
  · skip
    subst hw
    refine v_istore C dX12_rule_60 (by decide) (lv' := [(4, _), (0, _), (1, _), (2, _), (3, _)]) rfl ?_
    refine v_aload_n C dX12_rule_62 (j := 1) rfl rfl ?_
    refine v_iload C dX12_rule_63 (j := 0) rfl ?_
    refine v_if_ne C 72 dX12_rule_65 (by decide) (fun c1 => ?_) (fun c1 => ?_)
    · skip
      have hz := bI_1 c1
      refine v_aload_n C dX12_rule_72 (j := 1) rfl rfl ?_
      refine v_get C (T := TX12) (ci := 12) (j := 10) dX12_rule_73 wiX12_rule_X12 rfl (by decide) wfX12_rule_168 (fun _ h => h) (M_int rfl (by decide)) ?_
      rw [u1]
      refine v_bipush C dX12_rule_76 (v := 8) (by decide) ?_
      refine v_icmp_ne C 85 dX12_rule_78 (by decide) (fun c2 => ?_) (fun c2 => ?_)
      · skip
        have c3 : rls.length < 8 := by
            have : rls.length ≠ 8 := fun y => c2 (by rw [y]; rfl)
            omega
        refine v_iconst C dX12_rule_85 (v := 0) (by decide) ?_
        refine v_ci (v_runV C (m_fails 0) (cwV 1 C.1.2.2.2.2 gX12_rule_X12_fails rfl rfl rfl (by decide +kernel) ⟨Nat.le_of_ble_eq_true rfl, Nat.le_of_ble_eq_true rfl⟩) rfl rfl (M_gC) dX12_rule_86 (rest := []) (Nat.le_of_ble_eq_true rfl) rfl ⟨(by first | exact Nat.le_of_ble_eq_true rfl | (dsimp only; omega)), (by first | exact Nat.le_of_ble_eq_true rfl | (dsimp only; omega))⟩) (fun q x' hx' => ?_)
        obtain ⟨rfl, rfl⟩ := hx'
        have e10 : va_up I 33 0 10 = nI rls.length := by rw [va_up_other _ _ _ (by decide)]; exact u1
        refine v_if_eq C 94 dX12_rule_89 (by decide) (fun c4 => ?_) (fun c4 => absurd c4 (by intro h; exact h (by decide)))
        refine v_aload_n C dX12_rule_94 (j := 1) rfl rfl ?_
        refine v_get C (T := TX12) (ci := 12) (j := 11) dX12_rule_95 wiX12_rule_X12 rfl (by decide) wfX12_rule_26 (fun _ h => h) (M_ref rfl (by decide)) ?_
        refine v_aload_n C dX12_rule_98 (j := 1) rfl rfl ?_
        refine v_get C (T := TX12) (ci := 12) (j := 10) dX12_rule_99 wiX12_rule_X12 rfl (by decide) wfX12_rule_168 (fun _ h => h) (M_int rfl (by decide)) ?_
        rw [e10]
        refine v_iload_n C dX12_rule_102 (j := 2) rfl rfl ?_
        refine v_iast C dX12_rule_103 1 ht1 (vp_in_nI (by show rls.length < 8; omega) (by decide)) (M_set (j := 11) rfl _) ?_
        rw [nI_clamp (by omega)]
        refine v_aload_n C dX12_rule_104 (j := 1) rfl rfl ?_
        refine v_get C (T := TX12) (ci := 12) (j := 12) dX12_rule_105 wiX12_rule_X12 rfl (by decide) wfX12_rule_29 (fun _ h => h) (M_ref rfl (by decide)) ?_
        refine v_aload_n C dX12_rule_108 (j := 1) rfl rfl ?_
        refine v_get C (T := TX12) (ci := 12) (j := 10) dX12_rule_109 wiX12_rule_X12 rfl (by decide) wfX12_rule_168 (fun _ h => h) (M_int rfl (by decide)) ?_
        rw [e10]
        refine v_iload_n C dX12_rule_112 (j := 3) rfl rfl ?_
        refine v_iast C dX12_rule_113 1 ht1 (vp_in_nI (by show rls.length < 8; omega) (by decide)) (M_set (j := 12) rfl _) ?_
        rw [nI_clamp (by omega)]
        refine v_aload_n C dX12_rule_114 (j := 1) rfl rfl ?_
        refine v_get C (T := TX12) (ci := 12) (j := 13) dX12_rule_115 wiX12_rule_X12 rfl (by decide) wfX12_rule_32 (fun _ h => h) (M_ref rfl (by decide)) ?_
        refine v_aload_n C dX12_rule_118 (j := 1) rfl rfl ?_
        refine v_get C (T := TX12) (ci := 12) (j := 10) dX12_rule_119 wiX12_rule_X12 rfl (by decide) wfX12_rule_168 (fun _ h => h) (M_int rfl (by decide)) ?_
        rw [e10]
        refine v_iload_n C dX12_rule_122 (j := 4) rfl rfl ?_
        refine v_iast C dX12_rule_123 1 ht1 (vp_in_nI (by show rls.length < 8; omega) (by decide)) (M_set (j := 13) rfl _) ?_
        rw [nI_clamp (by omega)]
        refine v_aload_n C dX12_rule_124 (j := 1) rfl rfl ?_
        refine v_dup C dX12_rule_125 rfl ?_
        refine v_get C (T := TX12) (ci := 12) (j := 10) dX12_rule_126 wiX12_rule_X12 rfl (by decide) wfX12_rule_168 (fun _ h => h) (M_int rfl (by decide)) ?_
        rw [e10]
        refine v_iconst C dX12_rule_129 (v := 1) (by decide) ?_
        refine v_iadd C dX12_rule_130 ?_
        rw [nI_1]
        refine v_put C (T := TX12) (ci := 12) (j := 10) (ty := .int) dX12_rule_131 wiX12_rule_X12 tyX12 tyX12_ok nmX12 rfl (by decide) wfX12_rule_168 (fun _ h => h) rfl rfl (rfl) (rfl) (M_put rfl (by decide) _) ?_
        obtain ⟨M9, hM9⟩ : ∃ M9, M9 = va_up (va_up (va_up M 11 (upd (M 11) rls.length pat)) 12 (upd (va_up M 11 (upd (M 11) rls.length pat) 12) rls.length a)) 13 (upd (va_up (va_up M 11 (upd (M 11) rls.length pat)) 12 (upd (va_up M 11 (upd (M 11) rls.length pat) 12) rls.length a) 13) rls.length b) := ⟨_, rfl⟩
        have q11 : M9 11 = upd (M 11) rls.length pat := by rw [hM9, va_up_other _ _ _ (by decide), va_up_other _ _ _ (by decide), va_up_same]
        have q12 : M9 12 = upd (M 12) rls.length a := by rw [hM9, va_up_other _ _ _ (by decide), va_up_same, va_up_other _ _ _ (by decide)]
        have q13 : M9 13 = upd (M 13) rls.length b := by rw [hM9, va_up_same, va_up_other _ _ _ (by decide), va_up_other _ _ _ (by decide)]
        have qo : ∀ j, j ≠ 11 → j ≠ 12 → j ≠ 13 → M9 j = M j := fun j j1 j2 j3 => by rw [hM9, va_up_other _ _ _ j3, va_up_other _ _ _ j2, va_up_other _ _ _ j1]
        rw [← hM9]
        have hRn : mRu (va_up (va_up I 33 0) 10 (nI (rls.length + 1))) M9 (rls ++ [((pat, a, b), false, [])]) := by
            refine ⟨by rw [va_up_same]; simp, by simp; omega, fun i hi => ?_, fun i h1 h2 => ?_⟩
            · simp only [List.length_append, List.length_singleton] at hi
              by_cases hil : i = rls.length
              · subst hil
                rw [getD_app2]
                have hb := u4 rls.length (Nat.le_refl _) c3
                refine ⟨by rw [q11]; unfold upd; rw [if_pos rfl], by rw [q12]; unfold upd; rw [if_pos rfl], by rw [q13]; unfold upd; rw [if_pos rfl], by rw [qo 14 (by decide) (by decide) (by decide)]; exact hb.1, ?_, isPat_ok hz, by rw [qo 15 (by decide) (by decide) (by decide)]; exact hb.2, by simp, fun j hj => absurd hj (Nat.not_lt_zero j)⟩
                by_cases hin : isInB pat 0 3 = true
                · exact pat_in hin
                · rw [pat_out (by simpa using hin)] at hz; cases hz
              · rw [getD_app1 (by omega)]
                obtain ⟨k1, k2, k3, k4, k5, k6, k7, k8, k9⟩ := u3 i (by omega)
                refine ⟨by rw [q11]; unfold upd; rw [if_neg hil]; exact k1, by rw [q12]; unfold upd; rw [if_neg hil]; exact k2, by rw [q13]; unfold upd; rw [if_neg hil]; exact k3, by rw [qo 14 (by decide) (by decide) (by decide)]; exact k4, k5, k6, by rw [qo 15 (by decide) (by decide) (by decide)]; exact k7, k8, fun j hj => ?_⟩
                have h9 := k9 j hj
                unfold acM at h9 ⊢
                rw [qo 16 (by decide) (by decide) (by decide), qo 17 (by decide) (by decide) (by decide), qo 18 (by decide) (by decide) (by decide), qo 19 (by decide) (by decide) (by decide), qo 20 (by decide) (by decide) (by decide)]
                exact h9
            · simp only [List.length_append, List.length_singleton] at h1
              rw [qo 14 (by decide) (by decide) (by decide), qo 15 (by decide) (by decide) (by decide)]
              exact u4 i (by omega) h2
        refine v_aload_n C dX12_rule_134 (j := 1) rfl rfl ?_
        refine v_get C (T := TX12) (ci := 12) (j := 10) dX12_rule_135 wiX12_rule_X12 rfl (by decide) wfX12_rule_168 (fun _ h => h) (M_int rfl (by decide)) ?_
        rw [va_up_same]
        refine v_iconst C dX12_rule_138 (v := 1) (by decide) ?_
        refine v_isub C dX12_rule_139 ?_
        refine v_int (b := nI rls.length) (nI_pred _) ?_
        exact v_ireturn C dX12_rule_140 hr (rfl) (Nat.le_of_ble_eq_true rfl) (Nat.le_of_ble_eq_true rfl) (by rw [if_pos hz, if_pos c3]; exact ⟨_, M9, rfl, rfl, hRn, by rw [va_up_other _ _ _ (by decide), va_up_same], ⟨fun j hj => by rw [va_up_other _ _ _ (fun z => hj (by rw [z]; decide)), va_up_other _ _ _ (fun z => hj (by rw [z]; decide))], fun j hj => qo j (fun z => hj (by rw [z]; decide)) (fun z => hj (by rw [z]; decide)) (fun z => hj (by rw [z]; decide))⟩⟩)
      · skip
        have c3 : rls.length = 8 := by have := congrArg Int32.toNatClampNeg c2; rw [nI_clamp (by omega)] at this; exact this
        refine v_iconst C dX12_rule_81 (v := 2) (by decide) ?_
        refine v_goto C 86 dX12_rule_82 (by decide) ?_
        refine v_ci (v_runV C (m_fails 2) (cwV 1 C.1.2.2.2.2 gX12_rule_X12_fails rfl rfl rfl (by decide +kernel) ⟨Nat.le_of_ble_eq_true rfl, Nat.le_of_ble_eq_true rfl⟩) rfl rfl (M_gC) dX12_rule_86 (rest := []) (Nat.le_of_ble_eq_true rfl) rfl ⟨(by first | exact Nat.le_of_ble_eq_true rfl | (dsimp only; omega)), (by first | exact Nat.le_of_ble_eq_true rfl | (dsimp only; omega))⟩) (fun q x' hx' => ?_)
        obtain ⟨rfl, rfl⟩ := hx'
        refine v_if_eq C 94 dX12_rule_89 (by decide) (fun c4 => absurd c4 (by intro; exact absurd c4 (by decide))) (fun c4 => ?_)
        refine v_iconst C dX12_rule_92 (v := 0) (by decide) ?_
        exact v_ireturn C dX12_rule_93 hr (rfl) (Nat.le_of_ble_eq_true rfl) (Nat.le_of_ble_eq_true rfl) (by rw [if_pos hz, if_neg (by omega)])
    · skip
      have hz := bI_0 c1
      refine v_iconst C dX12_rule_68 (v := 1) (by decide) ?_
      refine v_goto C 86 dX12_rule_69 (by decide) ?_
      refine v_ci (v_runV C (m_fails 1) (cwV 1 C.1.2.2.2.2 gX12_rule_X12_fails rfl rfl rfl (by decide +kernel) ⟨Nat.le_of_ble_eq_true rfl, Nat.le_of_ble_eq_true rfl⟩) rfl rfl (M_gC) dX12_rule_86 (rest := []) (Nat.le_of_ble_eq_true rfl) rfl ⟨(by first | exact Nat.le_of_ble_eq_true rfl | (dsimp only; omega)), (by first | exact Nat.le_of_ble_eq_true rfl | (dsimp only; omega))⟩) (fun q x' hx' => ?_)
      obtain ⟨rfl, rfl⟩ := hx'
      refine v_if_eq C 94 dX12_rule_89 (by decide) (fun c4 => absurd c4 (by intro; exact absurd c4 (by decide))) (fun c4 => ?_)
      refine v_iconst C dX12_rule_92 (v := 0) (by decide) ?_
      exact v_ireturn C dX12_rule_93 hr (rfl) (Nat.le_of_ble_eq_true rfl) (Nat.le_of_ble_eq_true rfl) (by rw [if_neg (by rw [hz]; decide)])
  · skip
    refine v_iload_n C dX12_rule_0 (j := 1) rfl rfl ?_
    refine v_iconst C dX12_rule_1 (v := 0) (by decide) ?_
    refine v_iconst C dX12_rule_2 (v := 3) (by decide) ?_
    refine v_ci (v_runS C (m_isIn pat 0 3) (va_cwS 3 C.1.2.2.2.2 gX12_rule_X12_isIn rfl rfl rfl (by decide +kernel) ⟨Nat.le_of_ble_eq_true rfl, Nat.le_of_ble_eq_true rfl⟩) rfl dX12_rule_3 (rest := []) (Nat.le_of_ble_eq_true rfl) rfl ⟨(by first | exact Nat.le_of_ble_eq_true rfl | (dsimp only; omega)), (by first | exact Nat.le_of_ble_eq_true rfl | (dsimp only; omega))⟩) (fun q x' hx' => ?_)
    obtain ⟨rfl, rfl⟩ := hx'
    refine v_if_eq C 59 dX12_rule_6 (by decide) (fun c1 => ?_) (fun c1 => ?_)
    · skip
      refine v_iconst C dX12_rule_59 (v := 0) (by decide) ?_
      exact K _ (bI_f (pat_out (bI_0 c1)))
    · skip
      have hin := bI_1 c1
      refine v_iload_n C dX12_rule_9 (j := 1) rfl rfl ?_
      refine v_if_eq C 55 dX12_rule_10 (by decide) (fun c2 => ?_) (fun c2 => ?_)
      · skip
        refine v_iconst C dX12_rule_55 (v := 1) (by decide) ?_
        refine v_goto C 60 dX12_rule_56 (by decide) ?_
        exact K _ (bI_t (by unfold isPat; rw [if_pos c2]))
      · skip
        have hpe := pat_eq (a := a) (b := b) hin c2
        refine v_iload_n C dX12_rule_13 (j := 2) rfl rfl ?_
        refine v_iconst C dX12_rule_14 (v := 0) (by decide) ?_
        refine v_cut (pcj := 28) (lvj := [(0, .ref md), (1, .int pat), (2, .int a), (3, .int b)]) (stj := [.int 0, .int a]) (fun w => w = (if pat = 3 then 9999 else 12)) (fun w hw => ?_) (fun K => ?_)
        · skip
          subst hw
          refine v_ci (v_runS C (m_isIn a 0 (if pat = 3 then 9999 else 12)) (va_cwS 3 C.1.2.2.2.2 gX12_rule_X12_isIn rfl rfl rfl (by decide +kernel) ⟨Nat.le_of_ble_eq_true rfl, Nat.le_of_ble_eq_true rfl⟩) rfl dX12_rule_28 (rest := []) (Nat.le_of_ble_eq_true rfl) rfl ⟨(by first | exact Nat.le_of_ble_eq_true rfl | (dsimp only; omega)), (by first | exact Nat.le_of_ble_eq_true rfl | (dsimp only; omega))⟩) (fun q x' hx' => ?_)
          obtain ⟨rfl, rfl⟩ := hx'
          refine v_if_eq C 59 dX12_rule_31 (by decide) (fun c3 => ?_) (fun c3 => ?_)
          · skip
            refine v_iconst C dX12_rule_59 (v := 0) (by decide) ?_
            exact K _ (bI_f (by rw [hpe, bI_0 c3]; rfl))
          · skip
            refine v_iload_n C dX12_rule_34 (j := 3) rfl rfl ?_
            refine v_iconst C dX12_rule_35 (v := 0) (by decide) ?_
            refine v_cut (pcj := 49) (lvj := [(0, .ref md), (1, .int pat), (2, .int a), (3, .int b)]) (stj := [.int 0, .int b]) (fun w => w = (if pat = 2 then 12 else 9999)) (fun w hw => ?_) (fun K => ?_)
            · skip
              subst hw
              refine v_ci (v_runS C (m_isIn b 0 (if pat = 2 then 12 else 9999)) (va_cwS 3 C.1.2.2.2.2 gX12_rule_X12_isIn rfl rfl rfl (by decide +kernel) ⟨Nat.le_of_ble_eq_true rfl, Nat.le_of_ble_eq_true rfl⟩) rfl dX12_rule_49 (rest := []) (Nat.le_of_ble_eq_true rfl) rfl ⟨(by first | exact Nat.le_of_ble_eq_true rfl | (dsimp only; omega)), (by first | exact Nat.le_of_ble_eq_true rfl | (dsimp only; omega))⟩) (fun q x' hx' => ?_)
              obtain ⟨rfl, rfl⟩ := hx'
              refine v_if_eq C 59 dX12_rule_52 (by decide) (fun c4 => ?_) (fun c4 => ?_)
              · skip
                refine v_iconst C dX12_rule_59 (v := 0) (by decide) ?_
                exact K _ (bI_f (by rw [hpe, bI_0 c4, Bool.and_false]))
              · skip
                refine v_iconst C dX12_rule_55 (v := 1) (by decide) ?_
                refine v_goto C 60 dX12_rule_56 (by decide) ?_
                exact K _ (bI_t (by rw [hpe, bI_1 c3, bI_1 c4]; rfl))
            · skip
              refine v_iload_n C dX12_rule_36 (j := 1) rfl rfl ?_
              refine v_iconst C dX12_rule_37 (v := 2) (by decide) ?_
              refine v_icmp_ne C 46 dX12_rule_38 (by decide) (fun c4 => ?_) (fun c4 => ?_)
              · skip
                refine v_sipush C dX12_rule_46 (v := 9999) (by decide) ?_
                exact K _ (by rw [if_neg c4])
              · skip
                refine v_bipush C dX12_rule_41 (v := 12) (by decide) ?_
                refine v_goto C 49 dX12_rule_43 (by decide) ?_
                exact K _ (by rw [if_pos c4])
        · skip
          refine v_iload_n C dX12_rule_15 (j := 1) rfl rfl ?_
          refine v_iconst C dX12_rule_16 (v := 3) (by decide) ?_
          refine v_icmp_ne C 26 dX12_rule_17 (by decide) (fun c3 => ?_) (fun c3 => ?_)
          · skip
            refine v_bipush C dX12_rule_26 (v := 12) (by decide) ?_
            exact K _ (by rw [if_neg c3])
          · skip
            refine v_sipush C dX12_rule_20 (v := 9999) (by decide) ?_
            refine v_goto C 28 dX12_rule_23 (by decide) ?_
            exact K _ (by rw [if_pos c3])
end MRL
