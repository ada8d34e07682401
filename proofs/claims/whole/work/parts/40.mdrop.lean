/-! ===== the reference: a row dropped ===== -/
theorem wfX12_drops_193 : Cond.fieldLink RX12 193 "FieldScribeModel" (TX12 21).2.1 (TX12 21).2.2.1 ∈ wsX12_drops := by decide +kernel
theorem wiX12_drops_X12 : ∀ w ∈ u_ws RX12 TX12 34, w ∈ wsX12_drops := by decide +kernel
theorem wfX12_drops_63 : Cond.fieldLink RX12 63 "FieldScribeModel" (TX12 24).2.1 (TX12 24).2.2.1 ∈ wsX12_drops := by decide +kernel
theorem wfX12_drops_60 : Cond.fieldLink RX12 60 "FieldScribeModel" (TX12 23).2.1 (TX12 23).2.2.1 ∈ wsX12_drops := by decide +kernel
theorem wfX12_drops_57 : Cond.fieldLink RX12 57 "FieldScribeModel" (TX12 22).2.1 (TX12 22).2.2.1 ∈ wsX12_drops := by decide +kernel
def shk (f k i : Nat) : Nat := if f ≤ i ∧ i < k then i + 1 else i
theorem shk_next {f k i : Nat} (h : i ≠ k) : shk f (k + 1) i = shk f k i := by
  unfold shk
  by_cases h1 : f ≤ i ∧ i < k
  · rw [if_pos h1, if_pos (by omega)]
  · rw [if_neg h1, if_neg (by omega)]
theorem shk_same {f k : Nat} (h : f ≤ k) : shk f (k + 1) k = k + 1 := by unfold shk; rw [if_pos (by omega)]
theorem mRws_drop {I I' : Nat → Int32} {M M' : Nat → Nat → Int32} {rs : RR} {f : Nat} (h : mRws I M rs) (hf : f < rs.length) (h21 : I' 21 = nI (rs.length - 1)) (h24 : ∀ i, i < rs.length - 1 → M' 24 i = M 24 (shk f (rs.length - 1) i)) (h23 : ∀ i, i < rs.length - 1 → M' 23 i = M 23 (shk f (rs.length - 1) i)) (h22 : ∀ i j, i < rs.length - 1 → j < 60 → M' 22 (60 * i + j) = M 22 (60 * shk f (rs.length - 1) i + j)) : mRws I' M' (rs.eraseIdx f) := by
  obtain ⟨⟨g1, g2⟩, g3, g4⟩ := h
  rw [List.length_map] at g1 g2
  have hl : (rs.eraseIdx f).length = rs.length - 1 := by rw [List.length_eraseIdx, if_pos hf]
  have e0 : ∀ i, i < rs.length - 1 → (rs.eraseIdx f).getD i ([], 0) = rs.getD (shk f (rs.length - 1) i) ([], 0) := fun i hi => by
    simp only [List.getD_eq_getElem?_getD]
    rw [List.getElem?_eraseIdx]
    unfold shk
    by_cases hif : i < f
    · rw [if_pos hif, if_neg (by omega)]
    · rw [if_neg hif, if_pos (by omega)]
  have e1 : ∀ i, i < rs.length - 1 → shk f (rs.length - 1) i < rs.length := fun i hi => by unfold shk; split <;> omega
  refine ⟨⟨by rw [h21, List.length_map, hl], fun i hi => ?_⟩, fun i hi => ?_, by omega⟩
  · rw [List.length_map, hl] at hi
    rw [map_getD, e0 i hi, ← map_getD]
    obtain ⟨k1, k2, k3⟩ := g2 _ (e1 i hi)
    exact ⟨by rw [h23 i hi]; exact k1, k2, fun j hj => by rw [h22 i j hi (by omega)]; exact k3 j hj⟩
  · rw [hl] at hi
    rw [e0 i hi, h24 i hi]
    exact g3 _ (e1 i hi)
section MD
variable {l : Launch} {D : va_G} {tys : List (ClassId × FieldType)} {z0 : Nat} {A : Nat → Prop} {cI cZ : ClassId} {md : Nat} {ad : Nat → Nat} {I : Nat → Int32} {M : Nat → Nat → Int32} {sep rnum : Int32} {r : List Int32} {rs : RR}
set_option maxRecDepth 100000 in
set_option maxHeartbeats 8000000 in
theorem m_drops (ht1 : tys[1]? = some (cI, .int)) (hR : mRec I M r) {k9 b e2 : Nat} {t : List Int32} (hk9 : k9 ≤ 12) (hb : bOf I M k9 = nI b) (he : eOf I M k9 = nI e2) (hs : str r b e2 t) (hrs : mRws I M rs) (hnd : ndR rs) : ct D tys z0 A (picM D cI cZ md ad A) l yX12_drops wsX12_drops (rmL 2 46) [.ref md, .int (nI k9)] (I, M) (qV (picM D cI cZ md ad A) A (fun x => ∃ I' M', x = (I', M') ∧ mRws I' M' (dropR rs t) ∧ mch [21] [22, 23, 24] I M I' M')) := by
  have hrs2 := hrs
  obtain ⟨⟨h21, hts⟩, hsum, h20⟩ := hrs2
  rw [List.length_map] at h21 hts
  have hfl := fnd_le rs t
  refine ct_of RX12 (by decide +kernel) rfl rfl (Nat.le_of_ble_eq_true rfl) ?_
  intro p e s m below meth c C hr hm
  refine v_lv (lv' := [(0, _), (1, _)]) rfl ?_
  refine v_aload_n C dX12_drops_0 (j := 0) rfl rfl ?_
  refine v_iload_n C dX12_drops_1 (j := 1) rfl rfl ?_
  refine v_ci (v_runV C (m_rowOf ht1 hR hk9 hb he hs hrs hnd) (cwV 1 C.1.2.2.2.2 gX12_drops_X12_rowOf rfl rfl rfl (by decide +kernel) ⟨Nat.le_of_ble_eq_true rfl, Nat.le_of_ble_eq_true rfl⟩) rfl rfl (M_gC) dX12_drops_2 (rest := []) (Nat.le_of_ble_eq_true rfl) rfl ⟨(by first | exact Nat.le_of_ble_eq_true rfl | (dsimp only; omega)), (by first | exact Nat.le_of_ble_eq_true rfl | (dsimp only; omega))⟩) (fun q x' hx' => ?_)
  obtain ⟨rfl, rfl⟩ := hx'
  refine v_istore_n C dX12_drops_5 rfl (by decide) (lv' := [(2, _), (0, _), (1, _)]) rfl ?_
  by_cases hf : fnd rs t < rs.length
  · skip
    rw [if_pos hf]
    refine v_iload_n C dX12_drops_6 (j := 0) rfl rfl ?_
    refine v_iconst C dX12_drops_7 (v := (-1)) (by decide) ?_
    refine v_icmp_ne C 12 dX12_drops_8 (by decide) (fun c1 => ?_) (fun c1 => absurd c1 (by intro c1; have := congrArg Int32.toInt c1; rw [nI_toInt (by omega), show (-1 : Int32).toInt = -1 from rfl] at this; omega))
    refine v_iload_n C dX12_drops_12 (j := 0) rfl rfl ?_
    refine v_istore_n C dX12_drops_13 rfl (by decide) (lv' := [(3, _), (2, _), (0, _), (1, _)]) rfl ?_
    obtain ⟨k, M1, hk, e1, hc, hkl, hkl2, h24, h23, h22⟩ : ∃ (k : Nat) (M1 : Nat → Nat → Int32), k = fnd rs t ∧ M1 = M ∧ mch [] [22, 23, 24] I M I M1 ∧ fnd rs t ≤ k ∧ k ≤ rs.length - 1 ∧ (∀ i, i < 20 → M1 24 i = M 24 (shk (fnd rs t) k i)) ∧ (∀ i, i < 20 → M1 23 i = M 23 (shk (fnd rs t) k i)) ∧ ∀ i j, i < 20 → j < 60 → M1 22 (60 * i + j) = M 22 (60 * shk (fnd rs t) k i + j) := ⟨_, M, rfl, rfl, mch.rf, Nat.le_refl _, by omega, fun i _ => by unfold shk; rw [if_neg (by omega)], fun i _ => by unfold shk; rw [if_neg (by omega)], fun i j _ _ => by unfold shk; rw [if_neg (by omega)]⟩
    refine v_x (x' := (I, M1)) (fun H hP => by rw [e1]; exact hP) ?_
    refine v_lv (lv' := [(3, .int (nI k)), (2, _), (0, _), (1, _)]) (by rw [hk]) ?_
    clear hk e1
    induction hd : (rs.length - k) using Nat.strongRecOn generalizing k M1 with | _ d ih =>
      refine v_iload_n C dX12_drops_14 (j := 0) rfl rfl ?_
      refine v_aload_n C dX12_drops_15 (j := 2) rfl rfl ?_
      refine v_get C (T := TX12) (ci := 12) (j := 21) dX12_drops_16 wiX12_drops_X12 rfl (by decide) wfX12_drops_193 (fun _ h => h) (M_int rfl (by decide)) ?_
      rw [h21]
      refine v_iconst C dX12_drops_19 (v := 1) (by decide) ?_
      refine v_isub C dX12_drops_20 ?_
      refine v_int (b := nI (rs.length - 1)) (by rw [show rs.length = rs.length - 1 + 1 by omega]; exact nI_pred _) ?_
      refine v_icmp_ge C 100 dX12_drops_21 (by decide) (fun c2 => ?_) (fun c2 => ?_)
      · skip
        have c3 : k = rs.length - 1 := by have := le_of c2 (by omega) (by omega); omega
        refine v_aload_n C dX12_drops_100 (j := 2) rfl rfl ?_
        refine v_dup C dX12_drops_101 rfl ?_
        refine v_get C (T := TX12) (ci := 12) (j := 21) dX12_drops_102 wiX12_drops_X12 rfl (by decide) wfX12_drops_193 (fun _ h => h) (M_int rfl (by decide)) ?_
        rw [h21]
        refine v_iconst C dX12_drops_105 (v := 1) (by decide) ?_
        refine v_isub C dX12_drops_106 ?_
        refine v_int (b := nI (rs.length - 1)) (by rw [show rs.length = rs.length - 1 + 1 by omega]; exact nI_pred _) ?_
        refine v_put C (T := TX12) (ci := 12) (j := 21) (ty := .int) dX12_drops_107 wiX12_drops_X12 tyX12 tyX12_ok nmX12 rfl (by decide) wfX12_drops_193 (fun _ h => h) rfl rfl (rfl) (rfl) (M_put rfl (by decide) _) ?_
        exact v_return C dX12_drops_110 hr (Nat.le_of_ble_eq_true rfl) (Nat.le_of_ble_eq_true rfl) (⟨_, M1, rfl, mRws_drop hrs hf (va_up_same _ _ _) (fun i hi => by rw [h24 i (by omega), c3]) (fun i hi => by rw [h23 i (by omega), c3]) (fun i j hi hj => by rw [h22 i j (by omega) hj, c3]), (hc.mo (by decide) (by decide)).tr (mch_I (by decide) _)⟩)
      · skip
        have c3 : k < rs.length - 1 := lt_ofn c2 (by omega) (by omega)
        have ek : shk (fnd rs t) k (k + 1) = k + 1 := by unfold shk; rw [if_neg (by omega)]
        refine v_aload_n C dX12_drops_24 (j := 2) rfl rfl ?_
        refine v_get C (T := TX12) (ci := 12) (j := 24) dX12_drops_25 wiX12_drops_X12 rfl (by decide) wfX12_drops_63 (fun _ h => h) (M_ref rfl (by decide)) ?_
        refine v_iload_n C dX12_drops_28 (j := 0) rfl rfl ?_
        refine v_aload_n C dX12_drops_29 (j := 2) rfl rfl ?_
        refine v_get C (T := TX12) (ci := 12) (j := 24) dX12_drops_30 wiX12_drops_X12 rfl (by decide) wfX12_drops_63 (fun _ h => h) (M_ref rfl (by decide)) ?_
        refine v_iload_n C dX12_drops_33 (j := 0) rfl rfl ?_
        refine v_iconst C dX12_drops_34 (v := 1) (by decide) ?_
        refine v_iadd C dX12_drops_35 ?_
        rw [nI_1]
        refine v_iald C dX12_drops_36 1 ht1 (M_arr (j := 24) rfl) (vp_in_nI (by show k + 1 < 20; omega) (by decide)) ?_
        refine v_int (b := M 24 (k + 1)) (by rw [nI_clamp (by omega), h24 _ (by omega), ek]) ?_
        refine v_iast C dX12_drops_37 1 ht1 (vp_in_nI (by show k < 20; omega) (by decide)) (M_set (j := 24) rfl _) ?_
        rw [nI_clamp (by omega)]
        refine v_aload_n C dX12_drops_38 (j := 2) rfl rfl ?_
        refine v_get C (T := TX12) (ci := 12) (j := 23) dX12_drops_39 wiX12_drops_X12 rfl (by decide) wfX12_drops_60 (fun _ h => h) (M_ref rfl (by decide)) ?_
        refine v_iload_n C dX12_drops_42 (j := 0) rfl rfl ?_
        refine v_aload_n C dX12_drops_43 (j := 2) rfl rfl ?_
        refine v_get C (T := TX12) (ci := 12) (j := 23) dX12_drops_44 wiX12_drops_X12 rfl (by decide) wfX12_drops_60 (fun _ h => h) (M_ref rfl (by decide)) ?_
        refine v_iload_n C dX12_drops_47 (j := 0) rfl rfl ?_
        refine v_iconst C dX12_drops_48 (v := 1) (by decide) ?_
        refine v_iadd C dX12_drops_49 ?_
        rw [nI_1]
        refine v_iald C dX12_drops_50 1 ht1 (M_arr (j := 23) rfl) (vp_in_nI (by show k + 1 < 20; omega) (by decide)) ?_
        refine v_int (b := M 23 (k + 1)) (by rw [nI_clamp (by omega), va_up_other _ _ _ (by decide), h23 _ (by omega), ek]) ?_
        refine v_iast C dX12_drops_51 1 ht1 (vp_in_nI (by show k < 20; omega) (by decide)) (M_set (j := 23) rfl _) ?_
        rw [nI_clamp (by omega)]
        refine v_iconst C dX12_drops_52 (v := 0) (by decide) ?_
        refine v_istore C dX12_drops_53 (by decide) (lv' := [(4, _), (3, _), (2, _), (0, _), (1, _)]) rfl ?_
        obtain ⟨M2, hM2⟩ : ∃ M2, M2 = va_up (va_up M1 24 (upd (M1 24) k (M 24 (k + 1)))) 23 (upd (va_up M1 24 (upd (M1 24) k (M 24 (k + 1))) 23) k (M 23 (k + 1))) := ⟨_, rfl⟩
        obtain ⟨j, M3, hj, e1, hc3, g24, g23, g22a, g22b, hjl⟩ : ∃ (j : Nat) (M3 : Nat → Nat → Int32), j = 0 ∧ M3 = M2 ∧ mch [] [22, 23, 24] I M I M3 ∧ (∀ i, i < 20 → M3 24 i = M 24 (shk (fnd rs t) (k + 1) i)) ∧ (∀ i, i < 20 → M3 23 i = M 23 (shk (fnd rs t) (k + 1) i)) ∧ (∀ p, p < 60 * k ∨ 60 * k + j ≤ p → M3 22 p = M1 22 p) ∧ (∀ i, i < j → M3 22 (60 * k + i) = M1 22 (60 * (k + 1) + i)) ∧ j ≤ 60 := ⟨0, M2, rfl, rfl, by rw [hM2]; exact hc.tr ((mch_M (by decide) _).tr (mch_M (by decide) _)), fun i hi => by
            rw [hM2, va_up_other _ _ _ (by decide), va_up_same]
            unfold upd
            by_cases hik : i = k
            · rw [if_pos hik, hik, shk_same hkl]
            · rw [if_neg hik, shk_next hik]; exact h24 i hi, fun i hi => by
            rw [hM2, va_up_same, va_up_other _ _ _ (by decide)]
            unfold upd
            by_cases hik : i = k
            · rw [if_pos hik, hik, shk_same hkl]
            · rw [if_neg hik, shk_next hik]; exact h23 i hi, fun p _ => by rw [hM2, va_up_other _ _ _ (by decide), va_up_other _ _ _ (by decide)], fun i hi => absurd hi (Nat.not_lt_zero i), by decide⟩
        refine v_x (x' := (I, M3)) (fun H hP => by rw [e1, hM2]; exact hP) ?_
        refine v_lv (lv' := [(4, .int (nI j)), (3, _), (2, _), (0, _), (1, _)]) (by rw [hj]; rfl) ?_
        clear hj e1 hM2
        induction hd2 : (60 - j) using Nat.strongRecOn generalizing j M3 with | _ d2 ih2 =>
          refine v_iload C dX12_drops_55 (j := 0) rfl ?_
          refine v_bipush C dX12_drops_57 (v := 60) (by decide) ?_
          refine v_icmp_ge C 94 dX12_drops_59 (by decide) (fun c4 => ?_) (fun c4 => ?_)
          · skip
            have c5 : j = 60 := by have := le_of (a := 60) c4 (by decide) (by omega); omega
            subst c5
            refine v_iinc C dX12_drops_94 (j := 1) (v := _ + 1) rfl rfl (by decide) (lv' := [(3, _), (4, _), (2, _), (0, _), (1, _)]) rfl ?_
            refine v_goto C 14 dX12_drops_97 (by decide) ?_
            rw [nI_1]
            refine v_sub [0, 2, 3, 4] rfl ?_
            refine ih (rs.length - (k + 1)) (by omega) (k + 1) M3 hc3 (by omega) (by omega) g24 g23 (fun i jj hi hjj => ?_) rfl
            by_cases hik : i = k
            · rw [hik, g22b jj hjj, shk_same hkl, h22 (k + 1) jj (by omega) hjj, ek]
            · rw [shk_next hik, g22a _ (by omega), h22 i jj hi hjj]
          · skip
            have c5 : j < 60 := lt_ofn (a := 60) c4 (by decide) (by omega)
            refine v_aload_n C dX12_drops_62 (j := 3) rfl rfl ?_
            refine v_get C (T := TX12) (ci := 12) (j := 22) dX12_drops_63 wiX12_drops_X12 rfl (by decide) wfX12_drops_57 (fun _ h => h) (M_ref rfl (by decide)) ?_
            refine v_bipush C dX12_drops_66 (v := 60) (by decide) ?_
            refine v_iload_n C dX12_drops_68 (j := 1) rfl rfl ?_
            refine v_imul C dX12_drops_69 ?_
            refine v_iload C dX12_drops_70 (j := 0) rfl ?_
            refine v_iadd C dX12_drops_72 ?_
            refine v_int (b := nI (60 * k + j)) (nI_60 _ _) ?_
            refine v_aload_n C dX12_drops_73 (j := 3) rfl rfl ?_
            refine v_get C (T := TX12) (ci := 12) (j := 22) dX12_drops_74 wiX12_drops_X12 rfl (by decide) wfX12_drops_57 (fun _ h => h) (M_ref rfl (by decide)) ?_
            refine v_bipush C dX12_drops_77 (v := 60) (by decide) ?_
            refine v_iload_n C dX12_drops_79 (j := 1) rfl rfl ?_
            refine v_iconst C dX12_drops_80 (v := 1) (by decide) ?_
            refine v_iadd C dX12_drops_81 ?_
            rw [nI_1]
            refine v_imul C dX12_drops_82 ?_
            refine v_iload C dX12_drops_83 (j := 0) rfl ?_
            refine v_iadd C dX12_drops_85 ?_
            refine v_int (b := nI (60 * (k + 1) + j)) (nI_60 _ _) ?_
            refine v_iald C dX12_drops_86 1 ht1 (M_arr (j := 22) rfl) (vp_in_nI (by show 60 * (k + 1) + j < 1200; omega) (by decide)) ?_
            refine v_int (b := M1 22 (60 * (k + 1) + j)) (by rw [nI_clamp (by omega), g22a _ (by omega)]) ?_
            refine v_iast C dX12_drops_87 1 ht1 (vp_in_nI (by show 60 * k + j < 1200; omega) (by decide)) (M_set (j := 22) rfl _) ?_
            rw [nI_clamp (by omega)]
            refine v_iinc C dX12_drops_88 (j := 0) (v := _ + 1) rfl rfl (by decide) (lv' := [(4, _), (3, _), (2, _), (0, _), (1, _)]) rfl ?_
            refine v_goto C 55 dX12_drops_91 (by decide) ?_
            rw [nI_1]
            exact ih2 (60 - (j + 1)) (by omega) (j + 1) _ (hc3.tr (mch_M (by decide) _)) (fun i hi => by rw [va_up_other _ _ _ (by decide)]; exact g24 i hi) (fun i hi => by rw [va_up_other _ _ _ (by decide)]; exact g23 i hi) (fun p hp => by rw [va_up_same]; unfold upd; rw [if_neg (by omega)]; exact g22a p (by omega)) (fun i hi => by rw [va_up_same]; unfold upd; by_cases hij : i = j; rw [if_pos (by rw [hij]), hij]; rw [if_neg (by omega)]; exact g22b i (by omega)) (by omega) rfl
  · skip
    have hfe : fnd rs t = rs.length := by omega
    rw [if_neg hf]
    refine v_iload_n C dX12_drops_6 (j := 0) rfl rfl ?_
    refine v_iconst C dX12_drops_7 (v := (-1)) (by decide) ?_
    refine v_icmp_ne C 12 dX12_drops_8 (by decide) (fun c1 => absurd c1 (by intro; exact c1 rfl)) (fun c1 => ?_)
    exact v_return C dX12_drops_11 hr (Nat.le_of_ble_eq_true rfl) (Nat.le_of_ble_eq_true rfl) (⟨I, M, rfl, by rw [show dropR rs t = rs from List.eraseIdx_of_length_le (by omega)]; exact hrs, mch.rf⟩)
end MD
