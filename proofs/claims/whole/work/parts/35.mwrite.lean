/-! ===== the reference: numbers written, operands ===== -/
theorem wfX12_writes_78 : Cond.fieldLink RX12 78 "FieldScribeModel" (TX12 32).2.1 (TX12 32).2.2.1 ∈ wsX12_writes := by decide +kernel
theorem wiX12_writes_X12 : ∀ w ∈ u_ws RX12 TX12 34, w ∈ wsX12_writes := by decide +kernel
theorem wwX12_writes_k136 : Cond.constantLong RX12 136 (10) ∈ wsX12_writes := by decide +kernel
theorem wfX12_writes_100 : Cond.fieldLink RX12 100 "FieldScribeModel" (TX12 29).2.1 (TX12 29).2.2.1 ∈ wsX12_writes := by decide +kernel
theorem wfX12_writes_72 : Cond.fieldLink RX12 72 "FieldScribeModel" (TX12 28).2.1 (TX12 28).2.2.1 ∈ wsX12_writes := by decide +kernel
section MW
variable {l : Launch} {D : va_G} {tys : List (ClassId × FieldType)} {z0 : Nat} {A : Nat → Prop} {cI cZ : ClassId} {md : Nat} {ad : Nat → Nat} {I : Nat → Int32} {M : Nat → Nat → Int32} {sep : Int32} {r u v : List Int32}
set_option maxRecDepth 100000 in
set_option maxHeartbeats 8000000 in
theorem m_writes (ht1 : tys[1]? = some (cI, .int)) (n0 : Int32) : ct D tys z0 A (picM D cI cZ md ad A) l yX12_writes wsX12_writes rm0 [.ref md, .int n0] (I, M) (qV (picM D cI cZ md ad A) A (fun x => ∃ I' M', x = (I', M') ∧ mTx 29 28 I' M' (dec n0) ∧ mch [29] [28, 32] I M I' M')) := by
  obtain ⟨N, hN⟩ : ∃ N, N = n0.toInt.natAbs := ⟨_, rfl⟩
  have hN2 : N ≤ 2147483648 := by rw [hN]; exact abs_lt n0
  have hnd := ndig_in N
  refine ct_of RX12 (by decide +kernel) rfl rfl (Nat.le_of_ble_eq_true rfl) ?_
  intro p e s m below meth c C hr hm
  refine v_lv (lv' := [(0, _), (1, _)]) rfl ?_
  refine v_cut0 (pcj := 12) (lvj := [(0, .ref md), (1, .int n0)]) (stj := [.long (lN N)]) True (fun _ => ?_) (fun K => ?_)
  · skip
    refine v_lstore_n C dX12_writes_12 rfl (by decide) (lv' := [(2, _), (0, _), (1, _)]) rfl ?_
    refine v_iconst C dX12_writes_13 (v := 0) (by decide) ?_
    refine v_istore C dX12_writes_14 (by decide) (lv' := [(4, _), (2, _), (0, _), (1, _)]) rfl ?_
    obtain ⟨k, M1, hk, e1, hc, hk9, hdig⟩ : ∃ (k : Nat) (M1 : Nat → Nat → Int32), k = 0 ∧ M1 = M ∧ mch [29] [28, 32] I M I M1 ∧ k < ndig N ∧ ∀ j, j < k → M1 32 j = nI (N / 10 ^ j % 10) := ⟨0, M, rfl, rfl, mch.rf, by omega, fun j hj => absurd hj (Nat.not_lt_zero j)⟩
    refine v_x (x' := (I, M1)) (fun H hP => by rw [e1]; exact hP) ?_
    refine v_lv (lv' := [(4, .int (nI k)), (2, .long (lN (N / 10 ^ k))), (0, _), (1, _)]) (by rw [hk, Nat.pow_zero, Nat.div_one]; rfl) ?_
    clear hk e1
    induction hd : (10 - k) using Nat.strongRecOn generalizing M1 k with | _ d ih =>
      have hdv : N / 10 ^ k < 2 ^ 63 := Nat.lt_of_le_of_lt (Nat.div_le_self _ _) (by omega)
      have hni := ndig_iff (n := N) (k := k + 1)
      refine v_aload_n C dX12_writes_16 (j := 2) rfl rfl ?_
      refine v_get C (T := TX12) (ci := 12) (j := 32) dX12_writes_17 wiX12_writes_X12 rfl (by decide) wfX12_writes_78 (fun _ h => h) (M_ref rfl (by decide)) ?_
      refine v_iload C dX12_writes_20 (j := 0) rfl ?_
      refine v_lload_n C dX12_writes_22 (j := 1) rfl rfl ?_
      refine v_ldc2 C dX12_writes_23 (v := (10)) wwX12_writes_k136 ?_
      refine v_lrem C dX12_writes_26 (by decide) ?_
      refine v_l2i C dX12_writes_27 ?_
      refine v_int (b := nI (N / 10 ^ k % 10)) (by rw [show (10 : Int64) = lN 10 from rfl, pk_lRem hdv (by decide) (by decide), lN_i]) ?_
      refine v_iast C dX12_writes_28 1 ht1 (vp_in_nI (by show k < 12; omega) (by decide)) (M_set (j := 32) rfl _) ?_
      rw [nI_clamp (by omega)]
      refine v_lload_n C dX12_writes_29 (j := 1) rfl rfl ?_
      refine v_ldc2 C dX12_writes_30 (v := (10)) wwX12_writes_k136 ?_
      refine v_ldiv C dX12_writes_33 (by decide) ?_
      refine v_lstore_n C dX12_writes_34 rfl (by decide) (lv' := [(2, _), (4, _), (0, _), (1, _)]) rfl ?_
      refine v_lv (lv' := [(2, .long (lN (N / 10 ^ (k + 1)))), (4, .int (nI k)), (0, _), (1, _)]) (by rw [show (10 : Int64) = lN 10 from rfl, pk_lDiv hdv (by decide) (by decide), Nat.div_div_eq_div_mul, ← Nat.pow_succ]) ?_
      refine v_iinc C dX12_writes_35 (j := 1) (v := _ + 1) rfl rfl (by decide) (lv' := [(4, _), (2, _), (0, _), (1, _)]) rfl ?_
      rw [nI_1]
      refine v_lv (lv' := [(4, .int (nI (k + 1))), (2, .long (lN (N / 10 ^ (k + 1)))), (0, _), (1, _)]) rfl ?_
      have hM2 : ∀ j, j < k + 1 → va_up M1 32 (upd (M1 32) k (nI (N / 10 ^ k % 10))) 32 j = nI (N / 10 ^ j % 10) := fun j hj => by
          rw [va_up_same]
          unfold upd
          by_cases hjk : j = k
          · rw [if_pos hjk, hjk]
          · rw [if_neg hjk]; exact hdig j (by omega)
      have hc2 : mch [29] [28, 32] I M I (va_up M1 32 (upd (M1 32) k (nI (N / 10 ^ k % 10)))) := hc.tr (mch_M (by decide) _)
      obtain ⟨M2, hM2e⟩ : ∃ M2, M2 = va_up M1 32 (upd (M1 32) k (nI (N / 10 ^ k % 10))) := ⟨_, rfl⟩
      rw [← hM2e] at hM2 hc2 ⊢
      have hdv2 : N / 10 ^ (k + 1) < 2 ^ 63 := Nat.lt_of_le_of_lt (Nat.div_le_self _ _) (by omega)
      refine v_lload_n C dX12_writes_38 (j := 1) rfl rfl ?_
      refine v_lconst C dX12_writes_39 (v := 0) (by decide) ?_
      refine v_lcmp C dX12_writes_40 ?_
      refine v_if_gt C 16 dX12_writes_41 (by decide) (fun c1 => ?_) (fun c1 => ?_)
      · skip
        have c2 : 0 < N / 10 ^ (k + 1) := (pk_lLT (a := 0) (by decide) hdv2).mp ((lc_gt _ _).mp c1)
        have c3 : 10 ^ (k + 1) ≤ N := Nat.le_of_not_lt (fun z => by rw [Nat.div_eq_of_lt z] at c2; omega)
        have c4 : k + 1 < 10 := Nat.lt_of_not_le (fun z => by have : 10 ^ 10 ≤ 10 ^ (k + 1) := Nat.pow_le_pow_right (by decide) z
                                                              omega)
        exact ih (10 - (k + 1)) (by omega) (k + 1) M2 hc2 ((hni c4 (by omega)).mpr (Or.inl c3)) hM2 rfl
      · skip
        have c2 : ¬ 0 < N / 10 ^ (k + 1) := fun z => c1 ((lc_gt _ _).mpr ((pk_lLT (a := 0) (by decide) hdv2).mpr z))
        have c3 : ndig N = k + 1 := by
            by_cases c4 : k + 1 < 10
            · have c5 : ¬ (k + 1 < ndig N) := fun z => by
                  rcases (hni c4 (by omega)).mp z with q | q
                  · exact c2 (Nat.div_pos q (Nat.pow_pos (by decide)))
                  · omega
              omega
            · omega
        rw [← c3] at hM2 ⊢
        refine v_aload_n C dX12_writes_44 (j := 2) rfl rfl ?_
        refine v_iconst C dX12_writes_45 (v := 0) (by decide) ?_
        refine v_put C (T := TX12) (ci := 12) (j := 29) (ty := .int) dX12_writes_46 wiX12_writes_X12 tyX12 tyX12_ok nmX12 rfl (by decide) wfX12_writes_100 (fun _ h => h) rfl rfl (rfl) (rfl) (M_put rfl (by decide) _) ?_
        refine v_cutX (pcj := 66) (fun w : mS => w) (fun _ => [(4, .int (nI (ndig N))), (0, .ref md), (1, .int n0)]) (fun _ => []) (fun w => mch [29] [28, 32] I M w.1 w.2 ∧ (∀ j, j < ndig N → w.2 32 j = nI (N / 10 ^ j % 10)) ∧ ∃ p, mTx 29 28 w.1 w.2 p ∧ p ++ dl N (ndig N) = dec n0) (fun w hw => ?_) (fun K2 => ?_)
        · skip
          obtain ⟨I3, M3⟩ := w
          obtain ⟨w1, w2, p0, w3, w4⟩ := hw
          dsimp only at w1 w2 w3
          refine v_iload C dX12_writes_66 (j := 0) rfl ?_
          refine v_iconst C dX12_writes_68 (v := 1) (by decide) ?_
          refine v_isub C dX12_writes_69 ?_
          refine v_istore C dX12_writes_70 (by decide) (lv' := [(5, _), (4, _), (0, _), (1, _)]) rfl ?_
          obtain ⟨ct, hct, hct1, hw4⟩ : ∃ ct, ct = ndig N ∧ ct ≤ 10 ∧ p0 ++ dl N ct = dec n0 := ⟨_, rfl, hnd.2, w4⟩
          refine v_lv (lv' := [(5, .int (nI ct - 1)), (4, _), (0, _), (1, _)]) (by rw [hct]) ?_
          have hctn : ct ≤ ndig N := by omega
          clear hct w4
          induction hd3 : (0 + ct) using Nat.strongRecOn generalizing I3 M3 p0 ct with | _ d3 ih3 =>
            have hpl : p0.length + ct ≤ 11 := by have := dec_len n0; rw [← hw4, List.length_append, dl_len] at this; exact this
            refine v_iload C dX12_writes_72 (j := 0) rfl ?_
            refine v_if_lt C 112 dX12_writes_74 (by decide) (fun c6 => ?_) (fun c6 => ?_)
            · skip
              have c7 : ct = 0 := by
                  rcases Nat.eq_zero_or_pos ct with z | z
                  · exact z
                  · rw [show ct = ct - 1 + 1 by omega, nI_pred] at c6
                    exact absurd c6 (nI_pos (by omega))
              have e9 : p0 = dec n0 := by rw [← hw4, c7]; simp [dl]
              exact v_return C dX12_writes_112 hr (Nat.le_of_ble_eq_true rfl) (Nat.le_of_ble_eq_true rfl) (⟨I3, M3, rfl, by rw [← e9]; exact w3, w1⟩)
            · skip
              obtain ⟨c8, rfl⟩ : ∃ c8, ct = c8 + 1 := by
                  cases ct with
                  | zero => exact absurd (by decide) c6
                  | succ c8 => exact ⟨c8, rfl⟩
              refine v_aload_n C dX12_writes_77 (j := 2) rfl rfl ?_
              refine v_get C (T := TX12) (ci := 12) (j := 28) dX12_writes_78 wiX12_writes_X12 rfl (by decide) wfX12_writes_72 (fun _ h => h) (M_ref rfl (by decide)) ?_
              refine v_aload_n C dX12_writes_81 (j := 2) rfl rfl ?_
              refine v_get C (T := TX12) (ci := 12) (j := 29) dX12_writes_82 wiX12_writes_X12 rfl (by decide) wfX12_writes_100 (fun _ h => h) (M_int rfl (by decide)) ?_
              rw [w3.1]
              refine v_lv (lv' := [(5, .int (nI c8)), (4, _), (0, _), (1, _)]) (by rw [nI_pred]) ?_
              refine v_bipush C dX12_writes_85 (v := 48) (by decide) ?_
              refine v_aload_n C dX12_writes_87 (j := 2) rfl rfl ?_
              refine v_get C (T := TX12) (ci := 12) (j := 32) dX12_writes_88 wiX12_writes_X12 rfl (by decide) wfX12_writes_78 (fun _ h => h) (M_ref rfl (by decide)) ?_
              refine v_iload C dX12_writes_91 (j := 0) rfl ?_
              refine v_iald C dX12_writes_93 1 ht1 (M_arr (j := 32) rfl) (vp_in_nI (by show c8 < 12; omega) (by decide)) ?_
              refine v_int (b := nI (N / 10 ^ c8 % 10)) (by rw [nI_clamp (by omega)]; exact w2 c8 (by omega)) ?_
              refine v_iadd C dX12_writes_94 ?_
              refine v_int (b := dig N c8) (nI_add 48 _) ?_
              refine v_iast C dX12_writes_95 1 ht1 (vp_in_nI (by show p0.length < 60; omega) (by decide)) (M_set (j := 28) rfl _) ?_
              rw [nI_clamp (by omega)]
              refine v_aload_n C dX12_writes_96 (j := 2) rfl rfl ?_
              refine v_dup C dX12_writes_97 rfl ?_
              refine v_get C (T := TX12) (ci := 12) (j := 29) dX12_writes_98 wiX12_writes_X12 rfl (by decide) wfX12_writes_100 (fun _ h => h) (M_int rfl (by decide)) ?_
              rw [w3.1]
              refine v_iconst C dX12_writes_101 (v := 1) (by decide) ?_
              refine v_iadd C dX12_writes_102 ?_
              rw [nI_1]
              refine v_put C (T := TX12) (ci := 12) (j := 29) (ty := .int) dX12_writes_103 wiX12_writes_X12 tyX12 tyX12_ok nmX12 rfl (by decide) wfX12_writes_100 (fun _ h => h) rfl rfl (rfl) (rfl) (M_put rfl (by decide) _) ?_
              refine v_iinc C dX12_writes_106 (j := 0) (v := _ + (-1)) rfl rfl (by decide) (lv' := [(5, _), (4, _), (0, _), (1, _)]) rfl ?_
              refine v_goto C 72 dX12_writes_109 (by decide) ?_
              refine v_lv (lv' := [(5, .int (nI c8 - 1)), (4, _), (0, _), (1, _)]) (by rw [Int32.sub_eq_add_neg]) ?_
              refine ih3 (0 + c8) (by omega) _ _ (w1.tr ((mch_M (by decide) _).tr (mch_I (by decide) _))) (fun j hj => by rw [va_up_other _ _ _ (by decide)]; exact w2 j hj) (p0 ++ [dig N c8]) ?_ c8 (by omega) (by rw [← hw4]; simp [dl]) (by omega) rfl
              refine ⟨by rw [va_up_same]; simp, by simp; omega, fun k hk => ?_⟩
              rw [va_up_same]
              unfold upd
              simp only [List.length_append, List.length_singleton] at hk
              by_cases hku : k = p0.length
              · rw [if_pos hku, hku]; simp [List.getD_eq_getElem?_getD]
              · rw [if_neg hku, w3.2.2 k (by omega)]; simp only [List.getD_eq_getElem?_getD]; rw [List.getElem?_append_left (by omega)]
        · skip
          refine v_iload_n C dX12_writes_49 (j := 3) rfl rfl ?_
          refine v_if_ge C 66 dX12_writes_50 (by decide) (fun c5 => ?_) (fun c5 => ?_)
          · skip
            have hd9 : dec n0 = dl N (ndig N) := by unfold dec; rw [if_neg (Int32.not_lt.mpr c5), ← hN]
            refine v_sub [0, 2, 3] rfl ?_
            exact K2 (va_up I 29 0, M2) ⟨hc2.tr (mch_I (by decide) _), hM2, [], ⟨(show va_up I 29 0 29 = nI 0 from va_up_same _ _ _), by decide, fun k hk => absurd hk (Nat.not_lt_zero k)⟩, by rw [hd9]; rfl⟩
          · skip
            have hd9 : dec n0 = 45 :: dl N (ndig N) := by unfold dec; rw [if_pos (Int32.not_le.mp c5), ← hN]
            refine v_aload_n C dX12_writes_53 (j := 2) rfl rfl ?_
            refine v_get C (T := TX12) (ci := 12) (j := 28) dX12_writes_54 wiX12_writes_X12 rfl (by decide) wfX12_writes_72 (fun _ h => h) (M_ref rfl (by decide)) ?_
            refine v_iconst C dX12_writes_57 (v := 0) (by decide) ?_
            refine v_bipush C dX12_writes_58 (v := 45) (by decide) ?_
            refine v_iast C dX12_writes_60 1 ht1 (by unfold vp_in; decide) (M_set (j := 28) rfl _) ?_
            refine v_aload_n C dX12_writes_61 (j := 2) rfl rfl ?_
            refine v_iconst C dX12_writes_62 (v := 1) (by decide) ?_
            refine v_put C (T := TX12) (ci := 12) (j := 29) (ty := .int) dX12_writes_63 wiX12_writes_X12 tyX12 tyX12_ok nmX12 rfl (by decide) wfX12_writes_100 (fun _ h => h) rfl rfl (rfl) (rfl) (M_put rfl (by decide) _) ?_
            have m9 : mTx 29 28 (va_up (va_up I 29 0) 29 1) (va_up M2 28 (upd (M2 28) (0 : Int32).toNatClampNeg 45)) [45] := ⟨va_up_same _ _ _, by decide, fun k hk => by
                have hk0 : k = 0 := by simpa using hk
                subst hk0
                rw [va_up_same]
                rfl⟩
            refine v_sub [0, 2, 3] rfl ?_
            exact K2 (va_up (va_up I 29 0) 29 1, va_up M2 28 (upd (M2 28) (0 : Int32).toNatClampNeg 45)) ⟨hc2.tr ((mch_I (by decide) _).tr ((mch_M (by decide) _).tr (mch_I (by decide) _))), fun j hj => by dsimp only; rw [va_up_other _ _ _ (by decide)]; exact hM2 j hj, [45], m9, by rw [hd9]; rfl⟩
  · skip
    refine v_iload_n C dX12_writes_0 (j := 1) rfl rfl ?_
    refine v_if_ge C 10 dX12_writes_1 (by decide) (fun c1 => ?_) (fun c1 => ?_)
    · skip
      refine v_iload_n C dX12_writes_10 (j := 1) rfl rfl ?_
      refine v_i2l C dX12_writes_11 ?_
      refine v_long (b := lN N) (by rw [hN]; exact long_abs (Int32.not_lt.mpr c1)) ?_
      exact K trivial
    · skip
      refine v_iload_n C dX12_writes_4 (j := 1) rfl rfl ?_
      refine v_i2l C dX12_writes_5 ?_
      refine v_lneg C dX12_writes_6 ?_
      refine v_goto C 12 dX12_writes_7 (by decide) ?_
      refine v_long (b := lN N) (by rw [hN]; exact long_neg (Int32.not_le.mp c1)) ?_
      exact K trivial
end MW
