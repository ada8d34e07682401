/-! ===== the reference: a rule's actions; the end of a record ===== -/
theorem wfX12_acts_39 : Cond.fieldLink RX12 39 "FieldScribeModel" (TX12 15).2.1 (TX12 15).2.2.1 ∈ wsX12_acts := by decide +kernel
theorem wiX12_acts_X12 : ∀ w ∈ u_ws RX12 TX12 34, w ∈ wsX12_acts := by decide +kernel
theorem wfX12_acts_42 : Cond.fieldLink RX12 42 "FieldScribeModel" (TX12 16).2.1 (TX12 16).2.2.1 ∈ wsX12_acts := by decide +kernel
theorem wfX12_end_81 : Cond.fieldLink RX12 81 "FieldScribeModel" (TX12 33).2.1 (TX12 33).2.2.1 ∈ wsX12_end := by decide +kernel
theorem wiX12_end_X12 : ∀ w ∈ u_ws RX12 TX12 34, w ∈ wsX12_end := by decide +kernel
theorem wfX12_end_183 : Cond.fieldLink RX12 183 "FieldScribeModel" (TX12 7).2.1 (TX12 7).2.2.1 ∈ wsX12_end := by decide +kernel
theorem wfX12_end_91 : Cond.fieldLink RX12 91 "FieldScribeModel" (TX12 2).2.1 (TX12 2).2.2.1 ∈ wsX12_end := by decide +kernel
theorem wfX12_end_141 : Cond.fieldLink RX12 141 "FieldScribeModel" (TX12 8).2.1 (TX12 8).2.2.1 ∈ wsX12_end := by decide +kernel
theorem wfX12_end_168 : Cond.fieldLink RX12 168 "FieldScribeModel" (TX12 10).2.1 (TX12 10).2.2.1 ∈ wsX12_end := by decide +kernel
theorem wfX12_end_13 : Cond.fieldLink RX12 13 "FieldScribeModel" (TX12 1).2.1 (TX12 1).2.2.1 ∈ wsX12_end := by decide +kernel
theorem wfX12_end_23 : Cond.fieldLink RX12 23 "FieldScribeModel" (TX12 6).2.1 (TX12 6).2.2.1 ∈ wsX12_end := by decide +kernel
def ruM (M : Nat → Nat → Int32) (i : Nat) (R : Rl) : Prop := M 11 i = R.1.1 ∧ M 12 i = R.1.2.1 ∧ M 13 i = R.1.2.2 ∧ M 14 i = bI R.2.1 ∧ (R.1.1 = 0 ∨ R.1.1 = 1 ∨ R.1.1 = 2 ∨ R.1.1 = 3) ∧ okPat R.1.1 R.1.2.1 R.1.2.2 ∧ M 15 i = nI R.2.2.length ∧ R.2.2.length ≤ 6 ∧ ∀ j, j < R.2.2.length → acM M (6 * i + j) (R.2.2.getD j ac0)
def mRu (I : Nat → Int32) (M : Nat → Nat → Int32) (rls : List Rl) : Prop := I 10 = nI rls.length ∧ rls.length ≤ 8 ∧ (∀ i, i < rls.length → ruM M i (rls.getD i rl0)) ∧ ∀ i, rls.length ≤ i → i < 8 → M 14 i = 0 ∧ M 15 i = 0
theorem acM.ch {I I' : Nat → Int32} {M M' : Nat → Nat → Int32} {p : Nat} {c : Ac} {js ks : List Nat} (h : acM M p c) (q : mch js ks I M I' M') (h1 : 16 ∉ ks) (h2 : 17 ∉ ks) (h3 : 18 ∉ ks) (h4 : 19 ∉ ks) (h5 : 20 ∉ ks) : acM M' p c := by
  unfold acM at h ⊢
  rw [q.2 16 h1, q.2 17 h2, q.2 18 h3, q.2 19 h4, q.2 20 h5]
  exact h
theorem ruM.ch {I I' : Nat → Int32} {M M' : Nat → Nat → Int32} {i : Nat} {R : Rl} {js ks : List Nat} (h : ruM M i R) (q : mch js ks I M I' M') (hk : ks.all (fun z => !([11, 12, 13, 14, 15, 16, 17, 18, 19, 20] : List Nat).contains z) = true) : ruM M' i R := by
  have hn : ∀ z, z ∈ ([11, 12, 13, 14, 15, 16, 17, 18, 19, 20] : List Nat) → z ∉ ks := fun z hz hz2 => by
    have := List.all_eq_true.mp hk z hz2
    simp at this hz
    omega
  obtain ⟨h1, h2, h3, h4, h5, h6, h7, h8, h9⟩ := h
  exact ⟨by rw [q.2 11 (hn 11 (by decide))]; exact h1, by rw [q.2 12 (hn 12 (by decide))]; exact h2, by rw [q.2 13 (hn 13 (by decide))]; exact h3, by rw [q.2 14 (hn 14 (by decide))]; exact h4, h5, h6, by rw [q.2 15 (hn 15 (by decide))]; exact h7, h8, fun j hj => (h9 j hj).ch q (hn 16 (by decide)) (hn 17 (by decide)) (hn 18 (by decide)) (hn 19 (by decide)) (hn 20 (by decide))⟩
theorem mRu.ch {I I' : Nat → Int32} {M M' : Nat → Nat → Int32} {rls : List Rl} {js ks : List Nat} (h : mRu I M rls) (q : mch js ks I M I' M') (h10 : 10 ∉ js) (hk : ks.all (fun z => !([11, 12, 13, 14, 15, 16, 17, 18, 19, 20] : List Nat).contains z) = true) : mRu I' M' rls := by
  have hn : ∀ z, z ∈ ([11, 12, 13, 14, 15, 16, 17, 18, 19, 20] : List Nat) → z ∉ ks := fun z hz hz2 => by
    have := List.all_eq_true.mp hk z hz2
    simp at this hz
    omega
  exact ⟨by rw [q.1 10 h10]; exact h.1, h.2.1, fun i hi => (h.2.2.1 i hi).ch q hk, fun i h1 h2 => by rw [q.2 14 (hn 14 (by decide)), q.2 15 (hn 15 (by decide))]; exact h.2.2.2 i h1 h2⟩
section ME
variable {l : Launch} {D : va_G} {tys : List (ClassId × FieldType)} {z0 : Nat} {A : Nat → Prop} {cI cZ : ClassId} {md : Nat} {ad : Nat → Nat} {I : Nat → Int32} {M : Nat → Nat → Int32} {sep rnum : Int32} {w : WS} {typ : List Int32} {rls : List Rl} {Rr : Rl}
set_option maxRecDepth 100000 in
set_option maxHeartbeats 8000000 in
theorem m_acts (ht1 : tys[1]? = some (cI, .int)) (hW : mW I M sep rnum w) (hn : ∃ N, N < 1000000000 ∧ rnum = nI N) {i : Nat} (hi : i < 8) (hU : ruM M i Rr) : ct D tys z0 A (picM D cI cZ md ad A) l yX12_acts wsX12_acts (rmL 8 184) [.ref md, .int (nI i)] (I, M) (qI (picM D cI cZ md ad A) A (fun q x => ∃ I' M', x = (I', M') ∧ q = bI (actsS sep rnum Rr.2.2 w).1 ∧ mW I' M' sep rnum (actsS sep rnum Rr.2.2 w).2 ∧ mch jsD ksD I M I' M')) := by
  obtain ⟨-, -, -, -, -, -, u7, u8, u9⟩ := hU
  refine ct_of RX12 (by decide +kernel) rfl rfl (Nat.le_of_ble_eq_true rfl) ?_
  intro p e s m below meth c C hr hm
  refine v_lv (lv' := [(0, _), (1, _)]) rfl ?_
  refine v_bipush C dX12_acts_0 (v := 6) (by decide) ?_
  refine v_iload_n C dX12_acts_2 (j := 1) rfl rfl ?_
  refine v_imul C dX12_acts_3 ?_
  refine v_int (b := nI (6 * i)) (nI_mul 6 i) ?_
  refine v_istore_n C dX12_acts_4 rfl (by decide) (lv' := [(2, _), (0, _), (1, _)]) rfl ?_
  obtain ⟨j, I1, M1, w1, hj, e1, e2, e3, hc, hjl⟩ : ∃ (j : Nat) (I1 : Nat → Int32) (M1 : Nat → Nat → Int32) (w1 : WS), j = 0 ∧ I1 = I ∧ M1 = M ∧ w1 = w ∧ mch jsD ksD I M I1 M1 ∧ j ≤ Rr.2.2.length := ⟨0, I, M, w, rfl, rfl, rfl, rfl, mch.rf, Nat.zero_le _⟩
  refine v_x (x' := (I1, M1)) (fun H hP => by rw [e1, e2]; exact hP) ?_
  refine v_lv (lv' := [(2, .int (nI (6 * i + j))), (0, _), (1, _)]) (by rw [hj]; rfl) ?_
  have hW1 : mW I1 M1 sep rnum w1 := by rw [e1, e2, e3]; exact hW
  have hS : actsS sep rnum Rr.2.2 w = actsS sep rnum (Rr.2.2.drop j) w1 := by rw [hj, e3]; rfl
  clear hj e1 e2 e3
  induction hd : (Rr.2.2.length - j) using Nat.strongRecOn generalizing j I1 M1 w1 with | _ d ih =>
    refine v_iload_n C dX12_acts_5 (j := 0) rfl rfl ?_
    refine v_bipush C dX12_acts_6 (v := 6) (by decide) ?_
    refine v_iload_n C dX12_acts_8 (j := 2) rfl rfl ?_
    refine v_imul C dX12_acts_9 ?_
    refine v_int (b := nI (6 * i)) (nI_mul 6 i) ?_
    refine v_aload_n C dX12_acts_10 (j := 1) rfl rfl ?_
    refine v_get C (T := TX12) (ci := 12) (j := 15) dX12_acts_11 wiX12_acts_X12 rfl (by decide) wfX12_acts_39 (fun _ h => h) (M_ref rfl (by decide)) ?_
    refine v_iload_n C dX12_acts_14 (j := 2) rfl rfl ?_
    refine v_iald C dX12_acts_15 1 ht1 (M_arr (j := 15) rfl) (vp_in_nI (by show i < 8; omega) (by decide)) ?_
    refine v_int (b := nI Rr.2.2.length) (by rw [nI_clamp (by omega), hc.2 15 (by decide)]; exact u7) ?_
    refine v_iadd C dX12_acts_16 ?_
    refine v_int (b := nI (6 * i + Rr.2.2.length)) (nI_add _ _) ?_
    refine v_icmp_ge C 43 dX12_acts_17 (by decide) (fun c1 => ?_) (fun c1 => ?_)
    · skip
      have c2 := le_of c1 (by omega) (by omega)
      refine v_iconst C dX12_acts_43 (v := 1) (by decide) ?_
      exact v_ireturn C dX12_acts_44 hr (rfl) (Nat.le_of_ble_eq_true rfl) (Nat.le_of_ble_eq_true rfl) (⟨I1, M1, rfl, by rw [hS, List.drop_of_length_le (by omega)]; rfl, by rw [hS, List.drop_of_length_le (by omega)]; exact hW1, hc⟩)
    · skip
      have c2 : j < Rr.2.2.length := by have := lt_ofn c1 (by omega) (by omega); omega
      have hac := (u9 j c2).ch hc (by decide) (by decide) (by decide) (by decide) (by decide)
      have hdr : Rr.2.2.drop j = Rr.2.2.getD j ac0 :: Rr.2.2.drop (j + 1) := dropc ac0 c2
      refine v_aload_n C dX12_acts_20 (j := 1) rfl rfl ?_
      refine v_get C (T := TX12) (ci := 12) (j := 16) dX12_acts_21 wiX12_acts_X12 rfl (by decide) wfX12_acts_42 (fun _ h => h) (M_ref rfl (by decide)) ?_
      refine v_iload_n C dX12_acts_24 (j := 0) rfl rfl ?_
      refine v_iald C dX12_acts_25 1 ht1 (M_arr (j := 16) rfl) (vp_in_nI (by show 6 * i + j < 48; omega) (by decide)) ?_
      refine v_int (b := (Rr.2.2.getD j ac0).1) (by rw [nI_clamp (by omega)]; exact hac.1) ?_
      refine v_iconst C dX12_acts_26 (v := 4) (by decide) ?_
      refine v_icmp_ne C 32 dX12_acts_27 (by decide) (fun c3 => ?_) (fun c3 => ?_)
      · skip
        refine v_aload_n C dX12_acts_32 (j := 1) rfl rfl ?_
        refine v_iload_n C dX12_acts_33 (j := 0) rfl rfl ?_
        refine v_cv (v_runV C (m_does ht1 hW1 hn (p9 := 6 * i + j) (by omega) hac c3) (cwV 1 C.1.2.2.2.2 gX12_acts_X12_does rfl rfl rfl (by decide +kernel) ⟨Nat.le_of_ble_eq_true rfl, Nat.le_of_ble_eq_true rfl⟩) rfl rfl (M_gC) dX12_acts_34 (rest := []) (Nat.le_of_ble_eq_true rfl) rfl ⟨(by first | exact Nat.le_of_ble_eq_true rfl | (dsimp only; omega)), (by first | exact Nat.le_of_ble_eq_true rfl | (dsimp only; omega))⟩) (fun x' hx' => ?_)
        obtain ⟨I2, M2, rfl, k1, k2⟩ := hx'
        refine v_iinc C dX12_acts_37 (j := 0) (v := _ + 1) rfl rfl (by decide) (lv' := [(2, _), (0, _), (1, _)]) rfl ?_
        refine v_goto C 5 dX12_acts_40 (by decide) ?_
        rw [nI_1]
        refine v_lv (lv' := [(2, .int (nI (6 * i + (j + 1)))), (0, _), (1, _)]) rfl ?_
        exact ih (Rr.2.2.length - (j + 1)) (by omega) (j + 1) I2 M2 _ (hc.tr k2) (by omega) k1 (by rw [hS, hdr]; conv => lhs; unfold actsS; rw [if_neg c3]) rfl
      · skip
        refine v_iconst C dX12_acts_30 (v := 0) (by decide) ?_
        exact v_ireturn C dX12_acts_31 hr (rfl) (Nat.le_of_ble_eq_true rfl) (Nat.le_of_ble_eq_true rfl) (⟨I1, M1, rfl, by rw [hS, hdr]; unfold actsS; rw [if_pos c3]; rfl, by rw [hS, hdr]; unfold actsS; rw [if_pos c3]; exact hW1, hc⟩)
theorem mW.ch14 {I : Nat → Int32} {M M' : Nat → Nat → Int32} {sep rnum : Int32} {w : WS} (h : mW I M sep rnum w) (q : mch [] [14] I M I M') : mW I M' sep rnum w := ⟨h.1.ch q (by decide) (by decide), h.2.1.ch q (by decide) (by decide) (by decide) (by decide), h.2.2.1.ch q (by decide) (by decide) (by decide) (by decide), h.2.2.2.1.ch q (by decide) (by decide) (by decide), h.2.2.2.2⟩
set_option maxRecDepth 100000 in
set_option maxHeartbeats 16000000 in
theorem m_end (ht1 : tys[1]? = some (cI, .int)) (ht2 : tys[2]? = some (cZ, .boolean)) (hW : mW I M sep rnum w) (hn : ∃ N, N + 1 < 1000000000 ∧ rnum = nI N) (hty : mTx 7 6 I M typ) (hU : mRu I M rls) : ct D tys z0 A (picM D cI cZ md ad A) l yX12_end wsX12_end (rmL 9 206) [.ref md] (I, M) (qI (picM D cI cZ md ad A) A (fun q x => ∃ I' M', x = (I', M') ∧ q = (rulesS sep (rnum + 1) rls 0 (typ, w.2) 0).1 ∧ mW I' M' sep (rnum + 1) (rulesS sep (rnum + 1) rls 0 (typ, w.2) 0).2.2 ∧ mTx 7 6 I' M' [] ∧ mRu I' M' (rulesS sep (rnum + 1) rls 0 (typ, w.2) 0).2.1 ∧ I' 33 = 0)) := by
  obtain ⟨hR, hC, hrs, hls, h9, h8, hnd⟩ := hW
  have ht60 := hty.2.1
  refine ct_of RX12 (by decide +kernel) rfl rfl (Nat.le_of_ble_eq_true rfl) ?_
  intro p e s m below meth c C hr hm
  refine v_lv (lv' := [(0, _)]) rfl ?_
  refine v_aload_n C dX12_end_0 (j := 0) rfl rfl ?_
  refine v_iconst C dX12_end_1 (v := 0) (by decide) ?_
  refine v_put C (T := TX12) (ci := 12) (j := 33) (ty := .int) dX12_end_2 wiX12_end_X12 tyX12 tyX12_ok nmX12 rfl (by decide) wfX12_end_81 (fun _ h => h) rfl rfl (rfl) (rfl) (M_put rfl (by decide) _) ?_
  refine v_aload_n C dX12_end_5 (j := 0) rfl rfl ?_
  refine v_aload_n C dX12_end_6 (j := 0) rfl rfl ?_
  refine v_get C (T := TX12) (ci := 12) (j := 7) dX12_end_7 wiX12_end_X12 rfl (by decide) wfX12_end_183 (fun _ h => h) (M_int rfl (by decide)) ?_
  rw [show va_up I 33 0 7 = nI typ.length from by rw [va_up_other _ _ _ (by decide)]; exact hty.1]
  refine v_put C (T := TX12) (ci := 12) (j := 2) (ty := .int) dX12_end_10 wiX12_end_X12 tyX12 tyX12_ok nmX12 rfl (by decide) wfX12_end_91 (fun _ h => h) rfl rfl (rfl) (rfl) (M_put rfl (by decide) _) ?_
  refine v_iconst C dX12_end_13 (v := 0) (by decide) ?_
  refine v_istore_n C dX12_end_14 rfl (by decide) (lv' := [(1, _), (0, _)]) rfl ?_
  obtain ⟨k, I1, M1, hk, e1, e2, hc, hI2, hI33, hcp, hkl⟩ : ∃ (k : Nat) (I1 : Nat → Int32) (M1 : Nat → Nat → Int32), k = 0 ∧ I1 = va_up (va_up I 33 0) 2 (nI typ.length) ∧ M1 = M ∧ mch [2, 33] [1] I M I1 M1 ∧ I1 2 = nI typ.length ∧ I1 33 = 0 ∧ (∀ j, j < k → M1 1 j = typ.getD j 0) ∧ k ≤ typ.length := ⟨0, _, M, rfl, rfl, rfl, (mch_I (by decide) _).tr (mch_I (by decide) _), va_up_same _ _ _, by rw [va_up_other _ _ _ (by decide), va_up_same], fun j hj => absurd hj (Nat.not_lt_zero j), Nat.zero_le _⟩
  refine v_x (x' := (I1, M1)) (fun H hP => by rw [e1, e2]; exact hP) ?_
  refine v_lv (lv' := [(1, .int (nI k)), (0, _)]) (by rw [hk]; rfl) ?_
  clear hk e1 e2
  induction hd : (typ.length - k) using Nat.strongRecOn generalizing k M1 with | _ d ih =>
    have hty1 := hty.ch hc (by decide) (by decide)
    refine v_iload_n C dX12_end_15 (j := 0) rfl rfl ?_
    refine v_aload_n C dX12_end_16 (j := 1) rfl rfl ?_
    refine v_get C (T := TX12) (ci := 12) (j := 7) dX12_end_17 wiX12_end_X12 rfl (by decide) wfX12_end_183 (fun _ h => h) (M_int rfl (by decide)) ?_
    rw [hty1.1]
    refine v_icmp_ge C 41 dX12_end_20 (by decide) (fun c1 => ?_) (fun c1 => ?_)
    · skip
      have c2 : k = typ.length := by have := le_of c1 (by omega) (by omega); omega
      subst c2
      refine v_aload_n C dX12_end_41 (j := 1) rfl rfl ?_
      refine v_iconst C dX12_end_42 (v := 0) (by decide) ?_
      refine v_put C (T := TX12) (ci := 12) (j := 7) (ty := .int) dX12_end_43 wiX12_end_X12 tyX12 tyX12_ok nmX12 rfl (by decide) wfX12_end_183 (fun _ h => h) rfl rfl (rfl) (rfl) (M_put rfl (by decide) _) ?_
      refine v_aload_n C dX12_end_46 (j := 1) rfl rfl ?_
      refine v_dup C dX12_end_47 rfl ?_
      refine v_get C (T := TX12) (ci := 12) (j := 8) dX12_end_48 wiX12_end_X12 rfl (by decide) wfX12_end_141 (fun _ h => h) (M_int rfl (by decide)) ?_
      rw [show va_up I1 7 0 8 = rnum from by rw [va_up_other _ _ _ (by decide), hc.1 8 (by decide)]; exact h8]
      refine v_iconst C dX12_end_51 (v := 1) (by decide) ?_
      refine v_iadd C dX12_end_52 ?_
      refine v_put C (T := TX12) (ci := 12) (j := 8) (ty := .int) dX12_end_53 wiX12_end_X12 tyX12 tyX12_ok nmX12 rfl (by decide) wfX12_end_141 (fun _ h => h) rfl rfl (rfl) (rfl) (M_put rfl (by decide) _) ?_
      refine v_aload_n C dX12_end_56 (j := 1) rfl rfl ?_
      have hc2 : mch [2, 33, 7, 8] [1] I M (va_up (va_up I1 7 0) 8 (rnum + 1)) M1 := (hc.mo (by decide) (by decide)).tr ((mch_I (by decide) _).tr (mch_I (by decide) _))
      refine v_cv (v_runV C (m_cuts (sep := sep) ht1 (r := typ) ⟨by rw [va_up_other _ _ _ (by decide), va_up_other _ _ _ (by decide)]; exact hI2, ht60, hcp⟩ (by rw [hc2.1 0 (by decide)]; exact hC.1)) (cwV 0 C.1.2.2.2.2 gX12_end_X12_cuts rfl rfl rfl (by decide +kernel) ⟨Nat.le_of_ble_eq_true rfl, Nat.le_of_ble_eq_true rfl⟩) rfl rfl (M_gC) dX12_end_57 (rest := []) (Nat.le_of_ble_eq_true rfl) rfl ⟨(by first | exact Nat.le_of_ble_eq_true rfl | (dsimp only; omega)), (by first | exact Nat.le_of_ble_eq_true rfl | (dsimp only; omega))⟩) (fun x' hx' => ?_)
      obtain ⟨I2, M2, rfl, k1, k2, k3⟩ := hx'
      have hc3 : mch [2, 33, 7, 8, 3] [1, 4, 5] I M I2 M2 := (hc2.mo (by decide) (by decide)).tr ⟨fun j hj => k2 j (fun z => hj (by rw [z]; decide)), fun j hj => k3 j (fun z => hj (by rw [z]; decide)) (fun z => hj (by rw [z]; decide))⟩
      have hR2 : mRec I2 M2 typ := ⟨by rw [k2 2 (by decide), va_up_other _ _ _ (by decide), va_up_other _ _ _ (by decide)]; exact hI2, ht60, fun j hj => by rw [k3 1 (by decide) (by decide)]; exact hcp j hj⟩
      have hW2 : mW I2 M2 sep (rnum + 1) (typ, w.2) := ⟨hR2, k1, hrs.ch hc3 (by decide) (by decide) (by decide) (by decide), hls.ch hc3 (by decide) (by decide) (by decide), by rw [hc3.1 9 (by decide)]; exact h9, by rw [k2 8 (by decide), va_up_same], hnd⟩
      have hU2 := hU.ch hc3 (by decide) (by decide)
      have hm2 : mTx 7 6 I2 M2 [] := ⟨by rw [k2 7 (by decide), va_up_other _ _ _ (by decide), va_up_same]; rfl, by decide, fun k hk => absurd hk (Nat.not_lt_zero k)⟩
      have h33 : I2 33 = 0 := by rw [k2 33 (by decide), va_up_other _ _ _ (by decide), va_up_other _ _ _ (by decide)]; exact hI33
      have hn2 : ∃ N, N < 1000000000 ∧ rnum + 1 = nI N := by obtain ⟨N, q1, q2⟩ := hn; exact ⟨N + 1, q1, by rw [q2, nI_1]⟩
      refine v_iconst C dX12_end_60 (v := 0) (by decide) ?_
      refine v_istore_n C dX12_end_61 rfl (by decide) (lv' := [(1, _), (0, _)]) rfl ?_
      refine v_iconst C dX12_end_62 (v := 1) (by decide) ?_
      refine v_istore_n C dX12_end_63 rfl (by decide) (lv' := [(2, _), (1, _), (0, _)]) rfl ?_
      refine v_iconst C dX12_end_64 (v := 0) (by decide) ?_
      refine v_istore_n C dX12_end_65 rfl (by decide) (lv' := [(3, _), (2, _), (1, _), (0, _)]) rfl ?_
      obtain ⟨i, tk, g, I3, M3, w1, dn, rest, hi, e3, e4, e5, e6, e7, hcur, hdl, hZ⟩ : ∃ (i : Nat) (tk : Int32) (g : Bool) (I3 : Nat → Int32) (M3 : Nat → Nat → Int32) (w1 : WS) (dn rest : List Rl), i = 0 ∧ tk = 0 ∧ g = true ∧ I3 = I2 ∧ M3 = M2 ∧ w1 = (typ, w.2) ∧ rls = dn ++ rest ∧ dn.length = i ∧ rulesS sep (rnum + 1) rls 0 (typ, w.2) 0 = finS sep (rnum + 1) g dn rest i w1 tk := ⟨0, 0, true, I2, M2, _, [], rls, rfl, rfl, rfl, rfl, rfl, rfl, rfl, rfl, by unfold finS; rw [if_pos rfl]; rfl⟩
      refine v_x (x' := (I3, M3)) (fun H hP => by rw [e5, e6]; exact hP) ?_
      refine v_lv (lv' := [(3, .int (nI i)), (2, .int (bI g)), (1, .int tk), (0, _)]) (by rw [hi, e3, e4]; rfl) ?_
      rw [hZ]
      rw [← e5, ← e6] at hU2 hm2 hW2
      rw [← e5] at h33
      rw [← e7] at hW2
      rw [hcur] at hU2
      clear hZ hi e3 e4 e5 e6 e7 hcur ih hU
      induction hd2 : rest.length using Nat.strongRecOn generalizing i tk g I3 M3 w1 dn rest with | _ d2 ih2 =>
        have hul := hU2.2.1
        simp only [List.length_append] at hul
        refine v_iload_n C dX12_end_66 (j := 0) rfl rfl ?_
        refine v_aload_n C dX12_end_67 (j := 3) rfl rfl ?_
        refine v_get C (T := TX12) (ci := 12) (j := 10) dX12_end_68 wiX12_end_X12 rfl (by decide) wfX12_end_168 (fun _ h => h) (M_int rfl (by decide)) ?_
        rw [hU2.1]
        refine v_icmp_ge C 104 dX12_end_71 (by decide) (fun c3 => ?_) (fun c3 => ?_)
        · skip
          have c4 : rest = [] := List.eq_nil_of_length_eq_zero (by have := le_of c3 (by simp; omega) (by omega); simp at this; omega)
          subst c4
          have eF : finS sep (rnum + 1) g dn [] i w1 tk = (tk, dn, w1) := by unfold finS; split <;> simp [rulesS]
          refine v_iload_n C dX12_end_104 (j := 2) rfl rfl ?_
          exact v_ireturn C dX12_end_105 hr (rfl) (Nat.le_of_ble_eq_true rfl) (Nat.le_of_ble_eq_true rfl) (⟨I3, M3, rfl, by rw [eF], by rw [eF]; exact hW2, hm2, by rw [eF]; simpa using hU2, h33⟩)
        · skip
          have c4 : i < (dn ++ rest).length := lt_ofn c3 (by simp; omega) (by omega)
          refine v_iload_n C dX12_end_74 (j := 1) rfl rfl ?_
          refine v_if_eq C 104 dX12_end_75 (by decide) (fun c5 => ?_) (fun c5 => ?_)
          · skip
            have hg := bI_0 c5
            have eF : finS sep (rnum + 1) g dn rest i w1 tk = (tk, dn ++ rest, w1) := by unfold finS; rw [if_neg (by rw [hg]; decide)]
            refine v_iload_n C dX12_end_104 (j := 2) rfl rfl ?_
            exact v_ireturn C dX12_end_105 hr (rfl) (Nat.le_of_ble_eq_true rfl) (Nat.le_of_ble_eq_true rfl) (⟨I3, M3, rfl, by rw [eF], by rw [eF]; exact hW2, hm2, by rw [eF]; exact hU2, h33⟩)
          · skip
            have hg := bI_1 c5
            subst hg
            simp only [List.length_append] at c4
            obtain ⟨Rr, t9, rfl⟩ : ∃ Rr t9, rest = Rr :: t9 := by
                cases rest with
                | nil => simp at c4; omega
                | cons q t => exact ⟨q, t, rfl⟩
            have hRr : (dn ++ Rr :: t9).getD i rl0 = Rr := by rw [← hdl]; simp [List.getD_eq_getElem?_getD]
            have hru := hU2.2.2.1 i (by simp; omega)
            rw [hRr] at hru
            have hru2 := hru
            obtain ⟨u1, u2, u3, u4, u5, u6, u7, u8, u9⟩ := hru2
            refine v_aload_n C dX12_end_78 (j := 3) rfl rfl ?_
            refine v_iload_n C dX12_end_79 (j := 0) rfl rfl ?_
            refine v_ci (v_runV C (m_isTrue ht1 ht2 hW2.1 hW2.2.1 (by omega) u1 u2 u3 u4 u5 u6) (cwV 1 C.1.2.2.2.2 gX12_end_X12_isTrue rfl rfl rfl (by decide +kernel) ⟨Nat.le_of_ble_eq_true rfl, Nat.le_of_ble_eq_true rfl⟩) rfl rfl (M_gC) dX12_end_80 (rest := []) (Nat.le_of_ble_eq_true rfl) rfl ⟨(by first | exact Nat.le_of_ble_eq_true rfl | (dsimp only; omega)), (by first | exact Nat.le_of_ble_eq_true rfl | (dsimp only; omega))⟩) (fun q x' hx' => ?_)
            obtain ⟨M4, rfl, rfl, n1, n2, n3⟩ := hx'
            have hc14 : mch [] [14] I3 M3 I3 M4 := ⟨fun _ _ => rfl, fun j hj => n3 j (fun z => hj (by rw [z]; decide))⟩
            have hW4 := hW2.ch14 hc14
            have e9 := set_mid dn t9 Rr (Rr.1, patO Rr.1.1 Rr.1.2.1 Rr.1.2.2 Rr.2.1 (fld sep w1.1), Rr.2.2)
            rw [hdl] at e9
            have hU4 : mRu I3 M4 ((dn ++ [(Rr.1, patO Rr.1.1 Rr.1.2.1 Rr.1.2.2 Rr.2.1 (fld sep w1.1), Rr.2.2)]) ++ t9) := by
                rw [← e9]
                refine ⟨by rw [hU2.1, List.length_set], by rw [List.length_set]; exact hU2.2.1, fun m hm => ?_, fun m h1 h2 => by rw [List.length_set] at h1; rw [n2 m (fun z => by rw [z] at h1; simp at h1; omega), n3 15 (by decide)]; exact hU2.2.2.2 m h1 h2⟩
                rw [List.length_set] at hm
                have base : ∀ R9 : Rl, ruM M3 m R9 → ∀ op9 : Bool, M4 14 m = bI op9 → ruM M4 m (R9.1, op9, R9.2.2) := fun R9 h op9 ho => by
                    obtain ⟨q1, q2, q3, q4, q5, q6, q7, q8, q9⟩ := h
                    exact ⟨by rw [n3 11 (by decide)]; exact q1, by rw [n3 12 (by decide)]; exact q2, by rw [n3 13 (by decide)]; exact q3, ho, q5, q6, by rw [n3 15 (by decide)]; exact q7, q8, fun j hj => (q9 j hj).ch hc14 (by decide) (by decide) (by decide) (by decide) (by decide)⟩
                by_cases hmi : m = i
                · subst hmi
                  have e8 : ((dn ++ Rr :: t9).set m (Rr.1, patO Rr.1.1 Rr.1.2.1 Rr.1.2.2 Rr.2.1 (fld sep w1.1), Rr.2.2)).getD m rl0 = (Rr.1, patO Rr.1.1 Rr.1.2.1 Rr.1.2.2 Rr.2.1 (fld sep w1.1), Rr.2.2) := by simp only [List.getD_eq_getElem?_getD]; rw [List.getElem?_set_self hm]; rfl
                  rw [e8]
                  exact base Rr hru _ n1
                · have e8 : ((dn ++ Rr :: t9).set i (Rr.1, patO Rr.1.1 Rr.1.2.1 Rr.1.2.2 Rr.2.1 (fld sep w1.1), Rr.2.2)).getD m rl0 = (dn ++ Rr :: t9).getD m rl0 := by simp only [List.getD_eq_getElem?_getD]; rw [List.getElem?_set_ne (Ne.symm hmi)]
                  rw [e8]
                  have h7 := hU2.2.2.1 m hm
                  exact base _ h7 _ (by rw [n2 m hmi]; exact h7.2.2.2.1)
            have hm4 := hm2.ch hc14 (by decide) (by decide)
            have hdl9 : (dn ++ [(Rr.1, patO Rr.1.1 Rr.1.2.1 Rr.1.2.2 Rr.2.1 (fld sep w1.1), Rr.2.2)]).length = i + 1 := by simp [hdl]
            have hru4 : ruM M4 i (Rr.1, patO Rr.1.1 Rr.1.2.1 Rr.1.2.2 Rr.2.1 (fld sep w1.1), Rr.2.2) := by
                have h7 := hU4.2.2.1 i (by simp; omega)
                have e7 : ((dn ++ [(Rr.1, patO Rr.1.1 Rr.1.2.1 Rr.1.2.2 Rr.2.1 (fld sep w1.1), Rr.2.2)]) ++ t9).getD i rl0 = (Rr.1, patO Rr.1.1 Rr.1.2.1 Rr.1.2.2 Rr.2.1 (fld sep w1.1), Rr.2.2) := by rw [← hdl]; simp [List.getD_eq_getElem?_getD]
                rw [e7] at h7
                exact h7
            refine v_if_eq C 98 dX12_end_83 (by decide) (fun c6 => ?_) (fun c6 => ?_)
            · skip
              refine v_iinc C dX12_end_98 (j := 0) (v := _ + 1) rfl rfl (by decide) (lv' := [(3, _), (2, _), (1, _), (0, _)]) rfl ?_
              refine v_goto C 66 dX12_end_101 (by decide) ?_
              rw [nI_1, finS_no (bI_0 c6)]
              have hW9 := hW4
              have hU9 := hU4
              have hm9 := hm4
              have h339 := h33
              apply ih2 t9.length (by rw [← hd2]; simp) (i + 1) <;> first | exact hdl9 | exact hW9 | exact hU9 | exact hm9 | exact h339 | rfl
            · skip
              refine v_iload_n C dX12_end_86 (j := 2) rfl rfl ?_
              refine v_iconst C dX12_end_87 (v := 1) (by decide) ?_
              refine v_iload_n C dX12_end_88 (j := 0) rfl rfl ?_
              refine v_ishl C dX12_end_89 ?_
              refine v_ior C dX12_end_90 ?_
              refine v_istore_n C dX12_end_91 rfl (by decide) (lv' := [(1, _), (3, _), (2, _), (0, _)]) rfl ?_
              refine v_aload_n C dX12_end_92 (j := 3) rfl rfl ?_
              refine v_iload_n C dX12_end_93 (j := 1) rfl rfl ?_
              refine v_ci (v_runV C (m_acts ht1 hW4 hn2 (by omega) hru4) (cwV 1 C.1.2.2.2.2 gX12_end_X12_acts rfl rfl rfl (by decide +kernel) ⟨Nat.le_of_ble_eq_true rfl, Nat.le_of_ble_eq_true rfl⟩) rfl rfl (M_gC) dX12_end_94 (rest := []) (Nat.le_of_ble_eq_true rfl) rfl ⟨(by first | exact Nat.le_of_ble_eq_true rfl | (dsimp only; omega)), (by first | exact Nat.le_of_ble_eq_true rfl | (dsimp only; omega))⟩) (fun q x' hx' => ?_)
              obtain ⟨I5, M5, rfl, rfl, hW9, k6⟩ := hx'
              have hU9 := hU4.ch k6 (by decide) (by decide)
              have hm9 := hm4.ch k6 (by decide) (by decide)
              have h339 : I5 33 = 0 := by rw [k6.1 33 (by decide)]; exact h33
              refine v_istore_n C dX12_end_97 rfl (by decide) (lv' := [(2, _), (1, _), (3, _), (0, _)]) rfl ?_
              refine v_iinc C dX12_end_98 (j := 2) (v := _ + 1) rfl rfl (by decide) (lv' := [(3, _), (2, _), (1, _), (0, _)]) rfl ?_
              refine v_goto C 66 dX12_end_101 (by decide) ?_
              rw [nI_1, finS_yes (bI_1 c6)]
              refine v_lv (lv' := [(3, .int (nI (i + 1))), (2, .int (bI (actsS sep (rnum + 1) Rr.2.2 w1).1)), (1, .int (tk ||| (1 <<< (nI i &&& 31)))), (0, _)]) rfl ?_
              apply ih2 t9.length (by rw [← hd2]; simp) (i + 1) <;> first | exact hdl9 | exact hW9 | exact hU9 | exact hm9 | exact h339 | rfl
    · skip
      have c2 : k < typ.length := lt_ofn c1 (by omega) (by omega)
      refine v_aload_n C dX12_end_23 (j := 1) rfl rfl ?_
      refine v_get C (T := TX12) (ci := 12) (j := 1) dX12_end_24 wiX12_end_X12 rfl (by decide) wfX12_end_13 (fun _ h => h) (M_ref rfl (by decide)) ?_
      refine v_iload_n C dX12_end_27 (j := 0) rfl rfl ?_
      refine v_aload_n C dX12_end_28 (j := 1) rfl rfl ?_
      refine v_get C (T := TX12) (ci := 12) (j := 6) dX12_end_29 wiX12_end_X12 rfl (by decide) wfX12_end_23 (fun _ h => h) (M_ref rfl (by decide)) ?_
      refine v_iload_n C dX12_end_32 (j := 0) rfl rfl ?_
      refine v_iald C dX12_end_33 1 ht1 (M_arr (j := 6) rfl) (vp_in_nI (by show k < 60; omega) (by decide)) ?_
      refine v_int (b := typ.getD k 0) (by rw [nI_clamp (by omega)]; exact hty1.2.2 k c2) ?_
      refine v_iast C dX12_end_34 1 ht1 (vp_in_nI (by show k < 60; omega) (by decide)) (M_set (j := 1) rfl _) ?_
      rw [nI_clamp (by omega)]
      refine v_iinc C dX12_end_35 (j := 0) (v := _ + 1) rfl rfl (by decide) (lv' := [(1, _), (0, _)]) rfl ?_
      refine v_goto C 15 dX12_end_38 (by decide) ?_
      rw [nI_1]
      exact ih (typ.length - (k + 1)) (by omega) (k + 1) _ (hc.tr (mch_M (by decide) _)) (fun j hj => by rw [va_up_same]; unfold upd; by_cases hjk : j = k; rw [if_pos hjk, hjk]; rw [if_neg hjk]; exact hcp j (by omega)) (by omega) rfl
end ME
