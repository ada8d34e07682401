/-! ===== the reference: a line printed ===== -/
theorem wfX12_prints_69 : Cond.fieldLink RX12 69 "FieldScribeModel" (TX12 27).2.1 (TX12 27).2.2.1 ∈ wsX12_prints := by decide +kernel
theorem wiX12_prints_X12 : ∀ w ∈ u_ws RX12 TX12 34, w ∈ wsX12_prints := by decide +kernel
theorem wfX12_prints_199 : Cond.fieldLink RX12 199 "FieldScribeModel" (TX12 25).2.1 (TX12 25).2.2.1 ∈ wsX12_prints := by decide +kernel
theorem wfX12_prints_100 : Cond.fieldLink RX12 100 "FieldScribeModel" (TX12 29).2.1 (TX12 29).2.2.1 ∈ wsX12_prints := by decide +kernel
theorem wfX12_prints_66 : Cond.fieldLink RX12 66 "FieldScribeModel" (TX12 26).2.1 (TX12 26).2.2.1 ∈ wsX12_prints := by decide +kernel
theorem wfX12_prints_72 : Cond.fieldLink RX12 72 "FieldScribeModel" (TX12 28).2.1 (TX12 28).2.2.1 ∈ wsX12_prints := by decide +kernel
def mLns (I : Nat → Int32) (M : Nat → Nat → Int32) (ls : List (List Int32)) : Prop := mTs 25 27 26 I M ls ∧ ls.length ≤ 40
theorem mTs_new {c la ta : Nat} {I I' : Nat → Int32} {M M' : Nat → Nat → Int32} {ts : List (List Int32)} {t : List Int32} (h : mTs c la ta I M ts) (ht : t.length ≤ 60) (h21 : I' c = nI (ts.length + 1)) (h22 : ∀ p, p < 60 * ts.length → M' ta p = M ta p) (h22n : ∀ j, j < t.length → M' ta (60 * ts.length + j) = t.getD j 0) (h23 : ∀ i, i < ts.length → M' la i = M la i) (h23n : M' la ts.length = nI t.length) : mTs c la ta I' M' (ts ++ [t]) := by
  refine ⟨by rw [h21]; simp, fun i hi => ?_⟩
  simp only [List.length_append, List.length_singleton] at hi
  by_cases hil : i = ts.length
  · subst hil
    rw [getD_app2]
    exact ⟨h23n, ht, h22n⟩
  · rw [getD_app1 (by omega)]
    obtain ⟨k1, k2, k3⟩ := h.2 i (by omega)
    exact ⟨by rw [h23 i (by omega)]; exact k1, k2, fun j hj => by rw [h22 _ (by omega)]; exact k3 j hj⟩
section MP
variable {l : Launch} {D : va_G} {tys : List (ClassId × FieldType)} {z0 : Nat} {A : Nat → Prop} {cI cZ : ClassId} {md : Nat} {ad : Nat → Nat} {I : Nat → Int32} {M : Nat → Nat → Int32} {v : List Int32} {ls : List (List Int32)}
set_option maxRecDepth 100000 in
set_option maxHeartbeats 8000000 in
theorem m_prints (ht1 : tys[1]? = some (cI, .int)) (hv : mTx 29 28 I M v) (hls : mLns I M ls) : ct D tys z0 A (picM D cI cZ md ad A) l yX12_prints wsX12_prints rm0 [.ref md] (I, M) (qV (picM D cI cZ md ad A) A (fun x => ∃ I' M', x = (I', M') ∧ mLns I' M' (addL ls v) ∧ mch [25] [26, 27] I M I' M')) := by
  have hls2 := hls
  obtain ⟨⟨h25, hts⟩, h40⟩ := hls2
  have hv60 := hv.2.1
  refine ct_of RX12 (by decide +kernel) rfl rfl (Nat.le_of_ble_eq_true rfl) ?_
  intro p e s m below meth c C hr hm
  refine v_lv (lv' := [(0, _)]) rfl ?_
  refine v_cutX (pcj := 87) (fun w : (List (List Int32)) × mS => w.2) (fun _ => [(0, .ref md)]) (fun _ => []) (fun w => mTs 25 27 26 w.2.1 w.2.2 w.1 ∧ w.1.length < 40 ∧ mch [25] [26, 27] I M w.2.1 w.2.2 ∧ w.1 ++ [v] = addL ls v) (fun w hw => ?_) (fun K => ?_)
  · skip
    obtain ⟨l0, I1, M1⟩ := w
    obtain ⟨w1, w2, w3, w4⟩ := hw
    dsimp only at w1 w2 w3 w4
    have hv1 := hv.ch w3 (by decide) (by decide)
    refine v_aload_n C dX12_prints_87 (j := 0) rfl rfl ?_
    refine v_get C (T := TX12) (ci := 12) (j := 27) dX12_prints_88 wiX12_prints_X12 rfl (by decide) wfX12_prints_69 (fun _ h => h) (M_ref rfl (by decide)) ?_
    refine v_aload_n C dX12_prints_91 (j := 0) rfl rfl ?_
    refine v_get C (T := TX12) (ci := 12) (j := 25) dX12_prints_92 wiX12_prints_X12 rfl (by decide) wfX12_prints_199 (fun _ h => h) (M_int rfl (by decide)) ?_
    rw [w1.1]
    refine v_aload_n C dX12_prints_95 (j := 0) rfl rfl ?_
    refine v_get C (T := TX12) (ci := 12) (j := 29) dX12_prints_96 wiX12_prints_X12 rfl (by decide) wfX12_prints_100 (fun _ h => h) (M_int rfl (by decide)) ?_
    rw [hv1.1]
    refine v_iast C dX12_prints_99 1 ht1 (vp_in_nI (by show l0.length < 40; omega) (by decide)) (M_set (j := 27) rfl _) ?_
    rw [nI_clamp (by omega)]
    refine v_iconst C dX12_prints_100 (v := 0) (by decide) ?_
    refine v_istore_n C dX12_prints_101 rfl (by decide) (lv' := [(1, _), (0, _)]) rfl ?_
    obtain ⟨j, M2, hj, e1, hc, h27, hold, hnew, hjl⟩ : ∃ (j : Nat) (M2 : Nat → Nat → Int32), j = 0 ∧ M2 = va_up M1 27 (upd (M1 27) l0.length (nI v.length)) ∧ mch [25] [26, 27] I M I1 M2 ∧ M2 27 = upd (M1 27) l0.length (nI v.length) ∧ (∀ p, p < 60 * l0.length → M2 26 p = M1 26 p) ∧ (∀ i, i < j → M2 26 (60 * l0.length + i) = v.getD i 0) ∧ j ≤ v.length := ⟨0, _, rfl, rfl, w3.tr (mch_M (by decide) _), va_up_same _ _ _, fun p _ => by rw [va_up_other _ _ _ (by decide)], fun i hi => absurd hi (Nat.not_lt_zero i), Nat.zero_le _⟩
    refine v_x (x' := (I1, M2)) (fun H hP => by rw [e1]; exact hP) ?_
    refine v_lv (lv' := [(1, .int (nI j)), (0, _)]) (by rw [hj]; rfl) ?_
    clear hj e1
    induction hd : (v.length - j) using Nat.strongRecOn generalizing j M2 with | _ d ih =>
      have hv2 := hv.ch hc (by decide) (by decide)
      refine v_iload_n C dX12_prints_102 (j := 0) rfl rfl ?_
      refine v_aload_n C dX12_prints_103 (j := 1) rfl rfl ?_
      refine v_get C (T := TX12) (ci := 12) (j := 29) dX12_prints_104 wiX12_prints_X12 rfl (by decide) wfX12_prints_100 (fun _ h => h) (M_int rfl (by decide)) ?_
      rw [hv1.1]
      refine v_icmp_ge C 136 dX12_prints_107 (by decide) (fun c4 => ?_) (fun c4 => ?_)
      · skip
        have c5 : j = v.length := by have := le_of c4 (by omega) (by omega); omega
        refine v_aload_n C dX12_prints_136 (j := 1) rfl rfl ?_
        refine v_dup C dX12_prints_137 rfl ?_
        refine v_get C (T := TX12) (ci := 12) (j := 25) dX12_prints_138 wiX12_prints_X12 rfl (by decide) wfX12_prints_199 (fun _ h => h) (M_int rfl (by decide)) ?_
        rw [w1.1]
        refine v_iconst C dX12_prints_141 (v := 1) (by decide) ?_
        refine v_iadd C dX12_prints_142 ?_
        rw [nI_1]
        refine v_put C (T := TX12) (ci := 12) (j := 25) (ty := .int) dX12_prints_143 wiX12_prints_X12 tyX12 tyX12_ok nmX12 rfl (by decide) wfX12_prints_199 (fun _ h => h) rfl rfl (rfl) (rfl) (M_put rfl (by decide) _) ?_
        exact v_return C dX12_prints_146 hr (Nat.le_of_ble_eq_true rfl) (Nat.le_of_ble_eq_true rfl) (⟨_, M2, rfl, ⟨by rw [← w4]; exact mTs_new w1 hv60 (va_up_same _ _ _) (fun p hp => hold p hp) (fun i hi => hnew i (by omega)) (fun i hi => by rw [h27]; unfold upd; rw [if_neg (by omega)]) (by rw [h27]; unfold upd; rw [if_pos rfl]), by rw [← w4]; simp; omega⟩, hc.tr (mch_I (by decide) _)⟩)
      · skip
        have c5 : j < v.length := lt_ofn c4 (by omega) (by omega)
        refine v_aload_n C dX12_prints_110 (j := 1) rfl rfl ?_
        refine v_get C (T := TX12) (ci := 12) (j := 26) dX12_prints_111 wiX12_prints_X12 rfl (by decide) wfX12_prints_66 (fun _ h => h) (M_ref rfl (by decide)) ?_
        refine v_bipush C dX12_prints_114 (v := 60) (by decide) ?_
        refine v_aload_n C dX12_prints_116 (j := 1) rfl rfl ?_
        refine v_get C (T := TX12) (ci := 12) (j := 25) dX12_prints_117 wiX12_prints_X12 rfl (by decide) wfX12_prints_199 (fun _ h => h) (M_int rfl (by decide)) ?_
        rw [w1.1]
        refine v_imul C dX12_prints_120 ?_
        refine v_iload_n C dX12_prints_121 (j := 0) rfl rfl ?_
        refine v_iadd C dX12_prints_122 ?_
        refine v_int (b := nI (60 * l0.length + j)) (nI_60 _ _) ?_
        refine v_aload_n C dX12_prints_123 (j := 1) rfl rfl ?_
        refine v_get C (T := TX12) (ci := 12) (j := 28) dX12_prints_124 wiX12_prints_X12 rfl (by decide) wfX12_prints_72 (fun _ h => h) (M_ref rfl (by decide)) ?_
        refine v_iload_n C dX12_prints_127 (j := 0) rfl rfl ?_
        refine v_iald C dX12_prints_128 1 ht1 (M_arr (j := 28) rfl) (vp_in_nI (by show j < 60; omega) (by decide)) ?_
        refine v_int (b := v.getD j 0) (by rw [nI_clamp (by omega)]; exact hv2.2.2 j c5) ?_
        refine v_iast C dX12_prints_129 1 ht1 (vp_in_nI (by show 60 * l0.length + j < 2400; omega) (by decide)) (M_set (j := 26) rfl _) ?_
        rw [nI_clamp (by omega)]
        refine v_iinc C dX12_prints_130 (j := 0) (v := _ + 1) rfl rfl (by decide) (lv' := [(1, _), (0, _)]) rfl ?_
        refine v_goto C 102 dX12_prints_133 (by decide) ?_
        rw [nI_1]
        exact ih (v.length - (j + 1)) (by omega) (j + 1) _ (hc.tr (mch_M (by decide) _)) (by rw [va_up_other _ _ _ (by decide)]; exact h27) (fun p hp => by rw [va_up_same]; unfold upd; rw [if_neg (by omega)]; exact hold p hp) (fun i hi => by rw [va_up_same]; unfold upd; by_cases hij : i = j; rw [if_pos (by rw [hij]), hij]; rw [if_neg (by omega)]; exact hnew i (by omega)) (by omega) rfl
  · skip
    refine v_aload_n C dX12_prints_0 (j := 0) rfl rfl ?_
    refine v_get C (T := TX12) (ci := 12) (j := 25) dX12_prints_1 wiX12_prints_X12 rfl (by decide) wfX12_prints_199 (fun _ h => h) (M_int rfl (by decide)) ?_
    rw [h25]
    refine v_bipush C dX12_prints_4 (v := 40) (by decide) ?_
    refine v_icmp_ne C 87 dX12_prints_6 (by decide) (fun c1 => ?_) (fun c1 => ?_)
    · skip
      have c2 : ls.length < 40 := by
          have : ls.length ≠ 40 := fun z => c1 (by rw [z]; rfl)
          omega
      exact K (ls, I, M) ⟨⟨h25, hts⟩, c2, mch.rf, by unfold addL; rw [if_pos c2]⟩
    · skip
      have c2 : ls.length = 40 := by have := congrArg Int32.toNatClampNeg c1; rw [nI_clamp (by omega)] at this; exact this
      refine v_aload_n C dX12_prints_9 (j := 0) rfl rfl ?_
      refine v_dup C dX12_prints_10 rfl ?_
      refine v_get C (T := TX12) (ci := 12) (j := 25) dX12_prints_11 wiX12_prints_X12 rfl (by decide) wfX12_prints_199 (fun _ h => h) (M_int rfl (by decide)) ?_
      rw [h25, c2]
      refine v_iconst C dX12_prints_14 (v := 1) (by decide) ?_
      refine v_isub C dX12_prints_15 ?_
      refine v_int (b := nI 39) (by decide) ?_
      refine v_put C (T := TX12) (ci := 12) (j := 25) (ty := .int) dX12_prints_16 wiX12_prints_X12 tyX12 tyX12_ok nmX12 rfl (by decide) wfX12_prints_199 (fun _ h => h) rfl rfl (rfl) (rfl) (M_put rfl (by decide) _) ?_
      refine v_iconst C dX12_prints_19 (v := 0) (by decide) ?_
      refine v_istore_n C dX12_prints_20 rfl (by decide) (lv' := [(1, _), (0, _)]) rfl ?_
      obtain ⟨k, I1, M1, hk, e1, e2, hc, hI25, hkl, h27, h26⟩ : ∃ (k : Nat) (I1 : Nat → Int32) (M1 : Nat → Nat → Int32), k = 0 ∧ I1 = va_up I 25 (nI 39) ∧ M1 = M ∧ mch [25] [26, 27] I M I1 M1 ∧ I1 25 = nI 39 ∧ k ≤ 39 ∧ (∀ i, i < 40 → M1 27 i = M 27 (shk 0 k i)) ∧ ∀ i j, i < 40 → j < 60 → M1 26 (60 * i + j) = M 26 (60 * shk 0 k i + j) := ⟨0, _, M, rfl, rfl, rfl, mch_I (by decide) _, va_up_same _ _ _, by decide, fun i _ => by unfold shk; rw [if_neg (by omega)], fun i j _ _ => by unfold shk; rw [if_neg (by omega)]⟩
      refine v_x (x' := (I1, M1)) (fun H hP => by rw [e1, e2]; exact hP) ?_
      refine v_lv (lv' := [(1, .int (nI k)), (0, _)]) (by rw [hk]; rfl) ?_
      clear hk e1 e2
      induction hd : (40 - k) using Nat.strongRecOn generalizing k M1 with | _ d ih =>
        refine v_iload_n C dX12_prints_21 (j := 0) rfl rfl ?_
        refine v_aload_n C dX12_prints_22 (j := 1) rfl rfl ?_
        refine v_get C (T := TX12) (ci := 12) (j := 25) dX12_prints_23 wiX12_prints_X12 rfl (by decide) wfX12_prints_199 (fun _ h => h) (M_int rfl (by decide)) ?_
        rw [hI25]
        refine v_icmp_ge C 87 dX12_prints_26 (by decide) (fun c3 => ?_) (fun c3 => ?_)
        · skip
          have c4 : k = 39 := by have := le_of c3 (by decide) (by omega); omega
          subst c4
          refine v_sub [1] rfl ?_
          have es : ∀ i, i < 39 → shk 0 39 i = i + 1 := fun i hi => by unfold shk; rw [if_pos (by omega)]
          have ed : ∀ i, (ls.drop 1).getD i [] = ls.getD (i + 1) [] := fun i => by simp only [List.getD_eq_getElem?_getD, List.getElem?_drop, Nat.add_comm 1 i]
          have el : (ls.drop 1).length = 39 := by rw [List.length_drop, c2]
          refine K (ls.drop 1, I1, M1) ⟨⟨by dsimp only; rw [hI25, el], fun i hi => ?_⟩, by dsimp only; omega, hc, by unfold addL; rw [if_neg (by omega)]⟩
          dsimp only at hi ⊢
          rw [el] at hi
          rw [ed]
          obtain ⟨k1, k2, k3⟩ := hts (i + 1) (by omega)
          exact ⟨by rw [h27 i (by omega), es i hi]; exact k1, k2, fun j hj => by rw [h26 i j (by omega) (by omega), es i hi]; exact k3 j hj⟩
        · skip
          have c4 : k < 39 := lt_ofn c3 (by decide) (by omega)
          have ek : shk 0 k (k + 1) = k + 1 := by unfold shk; rw [if_neg (by omega)]
          refine v_aload_n C dX12_prints_29 (j := 1) rfl rfl ?_
          refine v_get C (T := TX12) (ci := 12) (j := 27) dX12_prints_30 wiX12_prints_X12 rfl (by decide) wfX12_prints_69 (fun _ h => h) (M_ref rfl (by decide)) ?_
          refine v_iload_n C dX12_prints_33 (j := 0) rfl rfl ?_
          refine v_aload_n C dX12_prints_34 (j := 1) rfl rfl ?_
          refine v_get C (T := TX12) (ci := 12) (j := 27) dX12_prints_35 wiX12_prints_X12 rfl (by decide) wfX12_prints_69 (fun _ h => h) (M_ref rfl (by decide)) ?_
          refine v_iload_n C dX12_prints_38 (j := 0) rfl rfl ?_
          refine v_iconst C dX12_prints_39 (v := 1) (by decide) ?_
          refine v_iadd C dX12_prints_40 ?_
          rw [nI_1]
          refine v_iald C dX12_prints_41 1 ht1 (M_arr (j := 27) rfl) (vp_in_nI (by show k + 1 < 40; omega) (by decide)) ?_
          refine v_int (b := M 27 (k + 1)) (by rw [nI_clamp (by omega), h27 _ (by omega), ek]) ?_
          refine v_iast C dX12_prints_42 1 ht1 (vp_in_nI (by show k < 40; omega) (by decide)) (M_set (j := 27) rfl _) ?_
          rw [nI_clamp (by omega)]
          refine v_iconst C dX12_prints_43 (v := 0) (by decide) ?_
          refine v_istore_n C dX12_prints_44 rfl (by decide) (lv' := [(2, _), (1, _), (0, _)]) rfl ?_
          obtain ⟨M2, hM2⟩ : ∃ M2, M2 = va_up M1 27 (upd (M1 27) k (M 27 (k + 1))) := ⟨_, rfl⟩
          have hc2 : mch [25] [26, 27] I M I1 M2 := by rw [hM2]; exact hc.tr (mch_M (by decide) _)
          have q27 : ∀ i, i < 40 → M2 27 i = M 27 (shk 0 (k + 1) i) := fun i hi => by
              rw [hM2, va_up_same]
              unfold upd
              by_cases hik : i = k
              · rw [if_pos hik, hik, shk_same (Nat.zero_le _)]
              · rw [if_neg hik, shk_next hik]; exact h27 i hi
          have q26 : M2 26 = M1 26 := by rw [hM2, va_up_other _ _ _ (by decide)]
          obtain ⟨j, M3, hj, e1, hc3, g27, g26a, g26b, hjl⟩ : ∃ (j : Nat) (M3 : Nat → Nat → Int32), j = 0 ∧ M3 = M2 ∧ mch [25] [26, 27] I M I1 M3 ∧ (∀ i, i < 40 → M3 27 i = M 27 (shk 0 (k + 1) i)) ∧ (∀ p, p < 60 * k ∨ 60 * k + j ≤ p → M3 26 p = M1 26 p) ∧ (∀ i, i < j → M3 26 (60 * k + i) = M1 26 (60 * (k + 1) + i)) ∧ j ≤ 60 := ⟨0, M2, rfl, rfl, hc2, q27, fun p _ => by rw [q26], fun i hi => absurd hi (Nat.not_lt_zero i), by decide⟩
          refine v_x (x' := (I1, M3)) (fun H hP => by rw [e1, hM2]; exact hP) ?_
          refine v_lv (lv' := [(2, .int (nI j)), (1, _), (0, _)]) (by rw [hj]; rfl) ?_
          clear hj e1 hM2
          induction hd2 : (60 - j) using Nat.strongRecOn generalizing j M3 with | _ d2 ih2 =>
            refine v_iload_n C dX12_prints_45 (j := 0) rfl rfl ?_
            refine v_bipush C dX12_prints_46 (v := 60) (by decide) ?_
            refine v_icmp_ge C 81 dX12_prints_48 (by decide) (fun c5 => ?_) (fun c5 => ?_)
            · skip
              have c6 : j = 60 := by have := le_of (a := 60) c5 (by decide) (by omega); omega
              subst c6
              refine v_iinc C dX12_prints_81 (j := 1) (v := _ + 1) rfl rfl (by decide) (lv' := [(1, _), (2, _), (0, _)]) rfl ?_
              refine v_goto C 21 dX12_prints_84 (by decide) ?_
              rw [nI_1]
              refine v_sub [0, 2] rfl ?_
              refine ih (40 - (k + 1)) (by omega) (k + 1) M3 hc3 (by omega) g27 (fun i jj hi hjj => ?_) rfl
              by_cases hik : i = k
              · rw [hik, g26b jj hjj, shk_same (Nat.zero_le _), h26 (k + 1) jj (by omega) hjj, ek]
              · rw [shk_next hik, g26a _ (by omega), h26 i jj hi hjj]
            · skip
              have c6 : j < 60 := lt_ofn (a := 60) c5 (by decide) (by omega)
              refine v_aload_n C dX12_prints_51 (j := 2) rfl rfl ?_
              refine v_get C (T := TX12) (ci := 12) (j := 26) dX12_prints_52 wiX12_prints_X12 rfl (by decide) wfX12_prints_66 (fun _ h => h) (M_ref rfl (by decide)) ?_
              refine v_bipush C dX12_prints_55 (v := 60) (by decide) ?_
              refine v_iload_n C dX12_prints_57 (j := 1) rfl rfl ?_
              refine v_imul C dX12_prints_58 ?_
              refine v_iload_n C dX12_prints_59 (j := 0) rfl rfl ?_
              refine v_iadd C dX12_prints_60 ?_
              refine v_int (b := nI (60 * k + j)) (nI_60 _ _) ?_
              refine v_aload_n C dX12_prints_61 (j := 2) rfl rfl ?_
              refine v_get C (T := TX12) (ci := 12) (j := 26) dX12_prints_62 wiX12_prints_X12 rfl (by decide) wfX12_prints_66 (fun _ h => h) (M_ref rfl (by decide)) ?_
              refine v_bipush C dX12_prints_65 (v := 60) (by decide) ?_
              refine v_iload_n C dX12_prints_67 (j := 1) rfl rfl ?_
              refine v_iconst C dX12_prints_68 (v := 1) (by decide) ?_
              refine v_iadd C dX12_prints_69 ?_
              rw [nI_1]
              refine v_imul C dX12_prints_70 ?_
              refine v_iload_n C dX12_prints_71 (j := 0) rfl rfl ?_
              refine v_iadd C dX12_prints_72 ?_
              refine v_int (b := nI (60 * (k + 1) + j)) (nI_60 _ _) ?_
              refine v_iald C dX12_prints_73 1 ht1 (M_arr (j := 26) rfl) (vp_in_nI (by show 60 * (k + 1) + j < 2400; omega) (by decide)) ?_
              refine v_int (b := M1 26 (60 * (k + 1) + j)) (by rw [nI_clamp (by omega), g26a _ (by omega)]) ?_
              refine v_iast C dX12_prints_74 1 ht1 (vp_in_nI (by show 60 * k + j < 2400; omega) (by decide)) (M_set (j := 26) rfl _) ?_
              rw [nI_clamp (by omega)]
              refine v_iinc C dX12_prints_75 (j := 0) (v := _ + 1) rfl rfl (by decide) (lv' := [(2, _), (1, _), (0, _)]) rfl ?_
              refine v_goto C 45 dX12_prints_78 (by decide) ?_
              rw [nI_1]
              exact ih2 (60 - (j + 1)) (by omega) (j + 1) _ (hc3.tr (mch_M (by decide) _)) (fun i hi => by rw [va_up_other _ _ _ (by decide)]; exact g27 i hi) (fun p hp => by rw [va_up_same]; unfold upd; rw [if_neg (by omega)]; exact g26a p (by omega)) (fun i hi => by rw [va_up_same]; unfold upd; by_cases hij : i = j; rw [if_pos (by rw [hij]), hij]; rw [if_neg (by omega)]; exact g26b i (by omega)) (by omega) rfl
end MP
