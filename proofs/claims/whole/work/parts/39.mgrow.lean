/-! ===== the reference: a row grows ===== -/
theorem wfX12_grows_63 : Cond.fieldLink RX12 63 "FieldScribeModel" (TX12 24).2.1 (TX12 24).2.2.1 ∈ wsX12_grows := by decide +kernel
theorem wiX12_grows_X12 : ∀ w ∈ u_ws RX12 TX12 34, w ∈ wsX12_grows := by decide +kernel
theorem wfX12_grows_193 : Cond.fieldLink RX12 193 "FieldScribeModel" (TX12 21).2.1 (TX12 21).2.2.1 ∈ wsX12_grows := by decide +kernel
theorem wfX12_grows_60 : Cond.fieldLink RX12 60 "FieldScribeModel" (TX12 23).2.1 (TX12 23).2.2.1 ∈ wsX12_grows := by decide +kernel
theorem wfX12_grows_57 : Cond.fieldLink RX12 57 "FieldScribeModel" (TX12 22).2.1 (TX12 22).2.2.1 ∈ wsX12_grows := by decide +kernel
theorem wfX12_grows_13 : Cond.fieldLink RX12 13 "FieldScribeModel" (TX12 1).2.1 (TX12 1).2.2.1 ∈ wsX12_grows := by decide +kernel
theorem getD_app1 {α : Type} {d : α} {xs : List α} {q : α} {i : Nat} (h : i < xs.length) : (xs ++ [q]).getD i d = xs.getD i d := by simp only [List.getD_eq_getElem?_getD]; rw [List.getElem?_append_left h]
theorem getD_app2 {α : Type} {d : α} {xs : List α} {q : α} : (xs ++ [q]).getD xs.length d = q := by simp [List.getD_eq_getElem?_getD]
theorem mRws_set {I I' : Nat → Int32} {M M' : Nat → Nat → Int32} {rs : RR} {f : Nat} {t : List Int32} {w : Int32} (h : mRws I M rs) (hf : f < rs.length) (ht : (rs.getD f ([], 0)).1 = t) (h21 : I' 21 = I 21) (h22 : M' 22 = M 22) (h23 : M' 23 = M 23) (h24 : M' 24 = upd (M 24) f w) : mRws I' M' (rs.set f (t, w)) := by
  obtain ⟨⟨g1, g2⟩, g3, g4⟩ := h
  rw [List.length_map] at g1 g2
  have e0 : ∀ i, i < rs.length → ((rs.set f (t, w)).getD i ([], 0)).1 = (rs.getD i ([], 0)).1 ∧ ((rs.set f (t, w)).getD i ([], 0)).2 = if i = f then w else (rs.getD i ([], 0)).2 := fun i hi => by
    by_cases hif : i = f
    · subst hif
      have e1 : (rs.set i (t, w)).getD i ([], 0) = (t, w) := by simp [List.getD_eq_getElem?_getD, hi]
      rw [e1, if_pos rfl]; exact ⟨ht.symm, rfl⟩
    · have e1 : (rs.set f (t, w)).getD i ([], 0) = rs.getD i ([], 0) := by simp [List.getD_eq_getElem?_getD, List.getElem?_set_ne (Ne.symm hif)]
      rw [e1, if_neg hif]; exact ⟨rfl, rfl⟩
  refine ⟨⟨by rw [h21, g1, List.length_map, List.length_set], fun i hi => ?_⟩, fun i hi => ?_, by simpa using g4⟩
  · rw [List.length_map, List.length_set] at hi
    rw [map_getD, (e0 i hi).1, h22, h23, ← map_getD]
    exact g2 i hi
  · rw [List.length_set] at hi
    rw [(e0 i hi).2, h24]
    unfold upd
    by_cases hif : i = f
    · rw [if_pos hif, if_pos hif]
    · rw [if_neg hif, if_neg hif]; exact g3 i hi
theorem mRws_new {I I' : Nat → Int32} {M M' : Nat → Nat → Int32} {rs : RR} {t : List Int32} (h : mRws I M rs) (hl : rs.length < 20) (ht : t.length ≤ 60) (h21 : I' 21 = nI (rs.length + 1)) (h22 : ∀ p, p < 60 * rs.length → M' 22 p = M 22 p) (h22n : ∀ j, j < t.length → M' 22 (60 * rs.length + j) = t.getD j 0) (h23 : ∀ i, i < rs.length → M' 23 i = M 23 i) (h23n : M' 23 rs.length = nI t.length) (h24 : ∀ i, i < rs.length → M' 24 i = M 24 i) (h24n : M' 24 rs.length = 0) : mRws I' M' (rs ++ [(t, 0)]) := by
  obtain ⟨⟨g1, g2⟩, g3, g4⟩ := h
  rw [List.length_map] at g1 g2
  refine ⟨⟨by rw [h21]; simp, fun i hi => ?_⟩, fun i hi => ?_, by simp; omega⟩
  · simp only [List.length_map, List.length_append, List.length_singleton] at hi
    rw [map_getD]
    by_cases hil : i = rs.length
    · subst hil
      rw [getD_app2]
      exact ⟨h23n, ht, h22n⟩
    · rw [getD_app1 (by omega), ← map_getD]
      obtain ⟨k1, k2, k3⟩ := g2 i (by omega)
      exact ⟨by rw [h23 i (by omega)]; exact k1, k2, fun j hj => by rw [h22 _ (by omega)]; exact k3 j hj⟩
  · simp only [List.length_append, List.length_singleton] at hi
    by_cases hil : i = rs.length
    · subst hil; rw [getD_app2]; exact h24n
    · rw [getD_app1 (by omega), h24 i (by omega)]; exact g3 i (by omega)
section MG
variable {l : Launch} {D : va_G} {tys : List (ClassId × FieldType)} {z0 : Nat} {A : Nat → Prop} {cI cZ : ClassId} {md : Nat} {ad : Nat → Nat} {I : Nat → Int32} {M : Nat → Nat → Int32} {sep rnum : Int32} {r : List Int32} {rs : RR}
set_option maxRecDepth 100000 in
set_option maxHeartbeats 8000000 in
theorem m_grows (ht1 : tys[1]? = some (cI, .int)) (hR : mRec I M r) {k9 b e2 : Nat} {t : List Int32} (hk9 : k9 ≤ 12) (hb : bOf I M k9 = nI b) (he : eOf I M k9 = nI e2) (hs : str r b e2 t) (hrs : mRws I M rs) (hnd : ndR rs) (z : Int32) : ct D tys z0 A (picM D cI cZ md ad A) l yX12_grows wsX12_grows (rmL 2 46) [.ref md, .int (nI k9), .int z] (I, M) (qV (picM D cI cZ md ad A) A (fun x => ∃ I' M', x = (I', M') ∧ mRws I' M' (growR rs t z) ∧ I' 9 = I 9 + growF rs t z ∧ mch [9, 21] [22, 23, 24] I M I' M')) := by
  have hl := str_len hs
  have h60 := hR.2.1
  have hbe := hs.1
  have her := hs.2.1
  have hrs2 := hrs
  obtain ⟨⟨h21, hts⟩, hsum, h20⟩ := hrs2
  rw [List.length_map] at h21 hts
  have hfl := fnd_le rs t
  refine ct_of RX12 (by decide +kernel) rfl rfl (Nat.le_of_ble_eq_true rfl) ?_
  intro p e s m below meth c C hr hm
  refine v_lv (lv' := [(0, _), (1, _), (2, _)]) rfl ?_
  refine v_aload_n C dX12_grows_0 (j := 0) rfl rfl ?_
  refine v_iload_n C dX12_grows_1 (j := 1) rfl rfl ?_
  refine v_ci (v_runV C (m_rowOf ht1 hR hk9 hb he hs hrs hnd) (cwV 1 C.1.2.2.2.2 gX12_grows_X12_rowOf rfl rfl rfl (by decide +kernel) ⟨Nat.le_of_ble_eq_true rfl, Nat.le_of_ble_eq_true rfl⟩) rfl rfl (M_gC) dX12_grows_2 (rest := []) (Nat.le_of_ble_eq_true rfl) rfl ⟨(by first | exact Nat.le_of_ble_eq_true rfl | (dsimp only; omega)), (by first | exact Nat.le_of_ble_eq_true rfl | (dsimp only; omega))⟩) (fun q x' hx' => ?_)
  obtain ⟨rfl, rfl⟩ := hx'
  refine v_istore_n C dX12_grows_5 rfl (by decide) (lv' := [(3, _), (0, _), (1, _), (2, _)]) rfl ?_
  refine v_cutX (pcj := 104) (fun w : mS => w) (fun _ => [(3, .int (nI (fnd rs t))), (0, .ref md), (1, .int (nI k9)), (2, .int z)]) (fun _ => []) (fun w => fnd rs t < 20 ∧ mRws w.1 w.2 (grwF rs t) ∧ mch [9, 21] [22, 23, 24] I M w.1 w.2 ∧ w.1 9 = I 9 ∧ ((grwF rs t).getD (fnd rs t) ([], 0)).1 = t) (fun w hw => ?_) (fun K => ?_)
  · skip
    obtain ⟨I1, M1⟩ := w
    obtain ⟨w1, w2, w3, w4, w5⟩ := hw
    dsimp only at w2 w3 w4
    have hgl := grw_len rs t
    refine v_iload_n C dX12_grows_104 (j := 0) rfl rfl ?_
    refine v_iconst C dX12_grows_105 (v := (-1)) (by decide) ?_
    refine v_icmp_eq C 129 dX12_grows_106 (by decide) (fun c1 => absurd c1 (by intro; have := congrArg Int32.toInt c1; rw [nI_toInt (by omega), show (-1 : Int32).toInt = -1 from rfl] at this; omega)) (fun c1 => ?_)
    refine v_aload_n C dX12_grows_109 (j := 1) rfl rfl ?_
    refine v_get C (T := TX12) (ci := 12) (j := 24) dX12_grows_110 wiX12_grows_X12 rfl (by decide) wfX12_grows_63 (fun _ h => h) (M_ref rfl (by decide)) ?_
    refine v_iload_n C dX12_grows_113 (j := 0) rfl rfl ?_
    refine v_aload_n C dX12_grows_114 (j := 1) rfl rfl ?_
    refine v_aload_n C dX12_grows_115 (j := 1) rfl rfl ?_
    refine v_get C (T := TX12) (ci := 12) (j := 24) dX12_grows_116 wiX12_grows_X12 rfl (by decide) wfX12_grows_63 (fun _ h => h) (M_ref rfl (by decide)) ?_
    refine v_iload_n C dX12_grows_119 (j := 0) rfl rfl ?_
    refine v_iald C dX12_grows_120 1 ht1 (M_arr (j := 24) rfl) (vp_in_nI (by show fnd rs t < 20; omega) (by decide)) ?_
    refine v_int (b := sumAt rs t) (by rw [nI_clamp (by omega)]; exact w2.2.1 _ hgl.1) ?_
    refine v_i2l C dX12_grows_121 ?_
    refine v_iload_n C dX12_grows_122 (j := 3) rfl rfl ?_
    refine v_i2l C dX12_grows_123 ?_
    refine v_ladd C dX12_grows_124 ?_
    refine v_ci (v_runV C (m_fits ((sumAt rs t).toInt64 + z.toInt64)) (cwV 1 C.1.2.2.2.2 gX12_grows_X12_fits rfl rfl rfl (by decide +kernel) ⟨Nat.le_of_ble_eq_true rfl, Nat.le_of_ble_eq_true rfl⟩) rfl rfl (M_gC) dX12_grows_125 (rest := [_, _]) (Nat.le_of_ble_eq_true rfl) rfl ⟨(by first | exact Nat.le_of_ble_eq_true rfl | (dsimp only; omega)), (by first | exact Nat.le_of_ble_eq_true rfl | (dsimp only; omega))⟩) (fun q x' hx' => ?_)
    obtain ⟨rfl, rfl⟩ := hx'
    refine v_iast C dX12_grows_128 1 ht1 (vp_in_nI (by show fnd rs t < 20; omega) (by decide)) (M_set (j := 24) rfl _) ?_
    rw [nI_clamp (by omega)]
    exact v_return C dX12_grows_129 hr (Nat.le_of_ble_eq_true rfl) (Nat.le_of_ble_eq_true rfl) (⟨_, _, rfl, by unfold growR; rw [if_neg (by omega)]; exact mRws_set w2 hgl.1 w5 (va_up_other _ _ _ (by decide)) (va_up_other _ _ _ (by decide)) (va_up_other _ _ _ (by decide)) (va_up_same _ _ _), by unfold growF; rw [if_neg (by omega), va_up_same, w4], w3.tr ((mch_I (by decide) _).tr (mch_M (by decide) _))⟩)
  · skip
    by_cases hf : fnd rs t < rs.length
    · skip
      rw [if_pos hf]
      refine v_iload_n C dX12_grows_6 (j := 0) rfl rfl ?_
      refine v_iconst C dX12_grows_7 (v := (-1)) (by decide) ?_
      refine v_icmp_ne C 104 dX12_grows_8 (by decide) (fun c1 => ?_) (fun c1 => ?_)
      · skip
        have e0 : grwF rs t = rs := if_neg (by omega)
        exact K (I, M) ⟨by omega, by rw [e0]; exact hrs, mch.rf, rfl, by rw [e0]; exact fnd_name rs t hf⟩
      · skip
        exact absurd c1 (by intro c1; have := congrArg Int32.toInt c1; rw [nI_toInt (by omega), show (-1 : Int32).toInt = -1 from rfl] at this; omega)
    · skip
      have hfe : fnd rs t = rs.length := by omega
      rw [if_neg hf]
      refine v_iload_n C dX12_grows_6 (j := 0) rfl rfl ?_
      refine v_iconst C dX12_grows_7 (v := (-1)) (by decide) ?_
      refine v_icmp_ne C 104 dX12_grows_8 (by decide) (fun c1 => absurd c1 (by intro; exact c1 rfl)) (fun c1 => ?_)
      refine v_aload_n C dX12_grows_11 (j := 1) rfl rfl ?_
      refine v_get C (T := TX12) (ci := 12) (j := 21) dX12_grows_12 wiX12_grows_X12 rfl (by decide) wfX12_grows_193 (fun _ h => h) (M_int rfl (by decide)) ?_
      rw [h21]
      refine v_bipush C dX12_grows_15 (v := 20) (by decide) ?_
      refine v_icmp_ge C 104 dX12_grows_17 (by decide) (fun c2 => ?_) (fun c2 => ?_)
      · skip
        have c3 : rs.length = 20 := by have := le_of (a := 20) c2 (by decide) (by omega); omega
        refine v_iload_n C dX12_grows_104 (j := 0) rfl rfl ?_
        refine v_iconst C dX12_grows_105 (v := (-1)) (by decide) ?_
        refine v_icmp_eq C 129 dX12_grows_106 (by decide) (fun c4 => ?_) (fun c4 => absurd c4 (by intro h; exact h rfl))
        exact v_return C dX12_grows_129 hr (Nat.le_of_ble_eq_true rfl) (Nat.le_of_ble_eq_true rfl) (⟨I, M, rfl, by unfold growR; rw [if_pos (by omega)]; exact hrs, by unfold growF; rw [if_pos (by omega)]; simp, mch.rf⟩)
      · skip
        have c3 : rs.length < 20 := lt_ofn (a := 20) c2 (by decide) (by omega)
        refine v_aload_n C dX12_grows_20 (j := 1) rfl rfl ?_
        refine v_get C (T := TX12) (ci := 12) (j := 21) dX12_grows_21 wiX12_grows_X12 rfl (by decide) wfX12_grows_193 (fun _ h => h) (M_int rfl (by decide)) ?_
        rw [h21]
        refine v_istore_n C dX12_grows_24 rfl (by decide) (lv' := [(3, _), (0, _), (1, _), (2, _)]) rfl ?_
        refine v_aload_n C dX12_grows_25 (j := 1) rfl rfl ?_
        refine v_get C (T := TX12) (ci := 12) (j := 23) dX12_grows_26 wiX12_grows_X12 rfl (by decide) wfX12_grows_60 (fun _ h => h) (M_ref rfl (by decide)) ?_
        refine v_iload_n C dX12_grows_29 (j := 0) rfl rfl ?_
        refine v_aload_n C dX12_grows_30 (j := 1) rfl rfl ?_
        refine v_iload_n C dX12_grows_31 (j := 2) rfl rfl ?_
        refine v_ci (v_runV C (m_to ht1 hk9 he) (cwV 1 C.1.2.2.2.2 gX12_grows_X12_to rfl rfl rfl (by decide +kernel) ⟨Nat.le_of_ble_eq_true rfl, Nat.le_of_ble_eq_true rfl⟩) rfl rfl (M_gC) dX12_grows_32 (rest := [_, _]) (Nat.le_of_ble_eq_true rfl) rfl ⟨(by first | exact Nat.le_of_ble_eq_true rfl | (dsimp only; omega)), (by first | exact Nat.le_of_ble_eq_true rfl | (dsimp only; omega))⟩) (fun q x' hx' => ?_)
        obtain ⟨rfl, rfl⟩ := hx'
        refine v_aload_n C dX12_grows_35 (j := 1) rfl rfl ?_
        refine v_iload_n C dX12_grows_36 (j := 2) rfl rfl ?_
        refine v_ci (v_runV C (m_from ht1 hk9 hb) (cwV 1 C.1.2.2.2.2 gX12_grows_X12_from rfl rfl rfl (by decide +kernel) ⟨Nat.le_of_ble_eq_true rfl, Nat.le_of_ble_eq_true rfl⟩) rfl rfl (M_gC) dX12_grows_37 (rest := [_, _, _]) (Nat.le_of_ble_eq_true rfl) rfl ⟨(by first | exact Nat.le_of_ble_eq_true rfl | (dsimp only; omega)), (by first | exact Nat.le_of_ble_eq_true rfl | (dsimp only; omega))⟩) (fun q x' hx' => ?_)
        obtain ⟨rfl, rfl⟩ := hx'
        refine v_isub C dX12_grows_40 ?_
        refine v_int (b := nI t.length) (by rw [hl]; exact pk_sub (by omega)) ?_
        refine v_iast C dX12_grows_41 1 ht1 (vp_in_nI (by show rs.length < 20; omega) (by decide)) (M_set (j := 23) rfl _) ?_
        rw [nI_clamp (by omega)]
        refine v_iconst C dX12_grows_42 (v := 0) (by decide) ?_
        refine v_istore C dX12_grows_43 (by decide) (lv' := [(4, _), (3, _), (0, _), (1, _), (2, _)]) rfl ?_
        obtain ⟨j, M1, hj, e1, hc, h23, hold, hnew, hjl⟩ : ∃ (j : Nat) (M1 : Nat → Nat → Int32), j = 0 ∧ M1 = va_up M 23 (upd (M 23) rs.length (nI t.length)) ∧ mch [9, 21] [22, 23] I M I M1 ∧ M1 23 = upd (M 23) rs.length (nI t.length) ∧ (∀ p, p < 60 * rs.length → M1 22 p = M 22 p) ∧ (∀ i, i < j → M1 22 (60 * rs.length + i) = t.getD i 0) ∧ j ≤ t.length := ⟨0, _, rfl, rfl, mch_M (by decide) _, va_up_same _ _ _, fun p _ => by rw [va_up_other _ _ _ (by decide)], fun i hi => absurd hi (Nat.not_lt_zero i), Nat.zero_le _⟩
        refine v_x (x' := (I, M1)) (fun H hP => by rw [e1]; exact hP) ?_
        refine v_lv (lv' := [(4, .int (nI j)), (3, _), (0, _), (1, _), (2, _)]) (by rw [hj]; rfl) ?_
        clear hj e1
        induction hd : (t.length - j) using Nat.strongRecOn generalizing j M1 with | _ d ih =>
          refine v_iload C dX12_grows_45 (j := 0) rfl ?_
          refine v_aload_n C dX12_grows_47 (j := 2) rfl rfl ?_
          refine v_get C (T := TX12) (ci := 12) (j := 23) dX12_grows_48 wiX12_grows_X12 rfl (by decide) wfX12_grows_60 (fun _ h => h) (M_ref rfl (by decide)) ?_
          refine v_iload_n C dX12_grows_51 (j := 1) rfl rfl ?_
          refine v_iald C dX12_grows_52 1 ht1 (M_arr (j := 23) rfl) (vp_in_nI (by show rs.length < 20; omega) (by decide)) ?_
          refine v_int (b := nI t.length) (by rw [nI_clamp (by omega), h23]; unfold upd; rw [if_pos rfl]) ?_
          refine v_icmp_ge C 87 dX12_grows_53 (by decide) (fun c4 => ?_) (fun c4 => ?_)
          · skip
            have c5 : j = t.length := by have := le_of c4 (by omega) (by omega); omega
            refine v_aload_n C dX12_grows_87 (j := 2) rfl rfl ?_
            refine v_get C (T := TX12) (ci := 12) (j := 24) dX12_grows_88 wiX12_grows_X12 rfl (by decide) wfX12_grows_63 (fun _ h => h) (M_ref rfl (by decide)) ?_
            refine v_iload_n C dX12_grows_91 (j := 1) rfl rfl ?_
            refine v_iconst C dX12_grows_92 (v := 0) (by decide) ?_
            refine v_iast C dX12_grows_93 1 ht1 (vp_in_nI (by show rs.length < 20; omega) (by decide)) (M_set (j := 24) rfl _) ?_
            rw [nI_clamp (by omega)]
            refine v_aload_n C dX12_grows_94 (j := 2) rfl rfl ?_
            refine v_dup C dX12_grows_95 rfl ?_
            refine v_get C (T := TX12) (ci := 12) (j := 21) dX12_grows_96 wiX12_grows_X12 rfl (by decide) wfX12_grows_193 (fun _ h => h) (M_int rfl (by decide)) ?_
            rw [h21]
            refine v_iconst C dX12_grows_99 (v := 1) (by decide) ?_
            refine v_iadd C dX12_grows_100 ?_
            rw [nI_1]
            refine v_put C (T := TX12) (ci := 12) (j := 21) (ty := .int) dX12_grows_101 wiX12_grows_X12 tyX12 tyX12_ok nmX12 rfl (by decide) wfX12_grows_193 (fun _ h => h) rfl rfl (rfl) (rfl) (M_put rfl (by decide) _) ?_
            have e0 : grwF rs t = rs ++ [(t, 0)] := if_pos hfe
            refine v_sub (lv' := [(3, .int (nI (fnd rs t))), (0, .ref md), (1, .int (nI k9)), (2, .int z)]) [1, 2, 3, 4] (by rw [hfe]; rfl) ?_
            refine K (va_up I 21 (nI (rs.length + 1)), va_up M1 24 (upd (M1 24) rs.length 0)) ⟨by omega, ?_, ?_, ?_, ?_⟩
            · rw [e0]
              refine mRws_new hrs c3 (by omega) (show va_up I 21 (nI (rs.length + 1)) 21 = nI (rs.length + 1) from va_up_same _ _ _) (fun p hp => ?_) (fun i hi => ?_) (fun i hi => ?_) ?_ (fun i hi => ?_) ?_
              · dsimp only; rw [va_up_other _ _ _ (by decide)]; exact hold p hp
              · dsimp only; rw [va_up_other _ _ _ (by decide)]; exact hnew i (by omega)
              · dsimp only; rw [va_up_other _ _ _ (by decide), h23]; unfold upd; rw [if_neg (by omega)]
              · dsimp only; rw [va_up_other _ _ _ (by decide), h23]; unfold upd; rw [if_pos rfl]
              · dsimp only; rw [va_up_same]; unfold upd; rw [if_neg (by omega), hc.2 24 (by decide)]
              · dsimp only; rw [va_up_same]; unfold upd; rw [if_pos rfl]
            · exact (hc.mo (by decide) (by decide)).tr ((mch_M (by decide) _).tr (mch_I (by decide) _))
            · exact (show va_up I 21 (nI (rs.length + 1)) 9 = I 9 from va_up_other _ _ _ (by decide))
            · rw [e0, hfe, getD_app2]
          · skip
            have c5 : j < t.length := lt_ofn c4 (by omega) (by omega)
            have hb1 : bOf I M1 k9 = nI b := by rw [(be_ch (k := k9) hc (by decide) (by decide) (by decide) (by decide)).1]; exact hb
            refine v_aload_n C dX12_grows_56 (j := 2) rfl rfl ?_
            refine v_get C (T := TX12) (ci := 12) (j := 22) dX12_grows_57 wiX12_grows_X12 rfl (by decide) wfX12_grows_57 (fun _ h => h) (M_ref rfl (by decide)) ?_
            refine v_bipush C dX12_grows_60 (v := 60) (by decide) ?_
            refine v_iload_n C dX12_grows_62 (j := 1) rfl rfl ?_
            refine v_imul C dX12_grows_63 ?_
            refine v_iload C dX12_grows_64 (j := 0) rfl ?_
            refine v_iadd C dX12_grows_66 ?_
            refine v_int (b := nI (60 * rs.length + j)) (nI_60 _ _) ?_
            refine v_aload_n C dX12_grows_67 (j := 2) rfl rfl ?_
            refine v_get C (T := TX12) (ci := 12) (j := 1) dX12_grows_68 wiX12_grows_X12 rfl (by decide) wfX12_grows_13 (fun _ h => h) (M_ref rfl (by decide)) ?_
            refine v_aload_n C dX12_grows_71 (j := 2) rfl rfl ?_
            refine v_iload_n C dX12_grows_72 (j := 3) rfl rfl ?_
            refine v_ci (v_runV C (m_from ht1 hk9 hb1) (cwV 1 C.1.2.2.2.2 gX12_grows_X12_from rfl rfl rfl (by decide +kernel) ⟨Nat.le_of_ble_eq_true rfl, Nat.le_of_ble_eq_true rfl⟩) rfl rfl (M_gC) dX12_grows_73 (rest := [_, _, _]) (Nat.le_of_ble_eq_true rfl) rfl ⟨(by first | exact Nat.le_of_ble_eq_true rfl | (dsimp only; omega)), (by first | exact Nat.le_of_ble_eq_true rfl | (dsimp only; omega))⟩) (fun q x' hx' => ?_)
            obtain ⟨rfl, rfl⟩ := hx'
            refine v_iload C dX12_grows_76 (j := 0) rfl ?_
            refine v_iadd C dX12_grows_78 ?_
            refine v_int (b := nI (b + j)) (nI_add b j) ?_
            refine v_iald C dX12_grows_79 1 ht1 (M_arr (j := 1) rfl) (vp_in_nI (by show b + j < 60; omega) (by decide)) ?_
            refine v_int (b := t.getD j 0) (by rw [nI_clamp (by omega), hc.2 1 (by decide), hR.2.2 _ (by omega), str_get hs (by omega)]) ?_
            refine v_iast C dX12_grows_80 1 ht1 (vp_in_nI (by show 60 * rs.length + j < 1200; omega) (by decide)) (M_set (j := 22) rfl _) ?_
            rw [nI_clamp (by omega)]
            refine v_iinc C dX12_grows_81 (j := 0) (v := _ + 1) rfl rfl (by decide) (lv' := [(4, _), (3, _), (0, _), (1, _), (2, _)]) rfl ?_
            refine v_goto C 45 dX12_grows_84 (by decide) ?_
            rw [nI_1]
            exact ih (t.length - (j + 1)) (by omega) (j + 1) _ (hc.tr (mch_M (by decide) _)) (by rw [va_up_other _ _ _ (by decide)]; exact h23) (fun p hp => by rw [va_up_same]; unfold upd; rw [if_neg (by omega)]; exact hold p hp) (fun i hi => by rw [va_up_same]; unfold upd; by_cases hij : i = j; rw [if_pos (by rw [hij]), hij]; rw [if_neg (by omega)]; exact hnew i (by omega)) (by omega) rfl
end MG
