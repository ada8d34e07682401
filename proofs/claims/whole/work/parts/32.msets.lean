/-! ===== the reference: texts put together; a field set ===== -/
theorem wfX12_adds_94 : Cond.fieldLink RX12 94 "FieldScribeModel" (TX12 31).2.1 (TX12 31).2.2.1 ∈ wsX12_adds := by decide +kernel
theorem wiX12_adds_X12 : ∀ w ∈ u_ws RX12 TX12 34, w ∈ wsX12_adds := by decide +kernel
theorem wfX12_adds_75 : Cond.fieldLink RX12 75 "FieldScribeModel" (TX12 30).2.1 (TX12 30).2.2.1 ∈ wsX12_adds := by decide +kernel
theorem wfX12_addsValue_100 : Cond.fieldLink RX12 100 "FieldScribeModel" (TX12 29).2.1 (TX12 29).2.2.1 ∈ wsX12_addsValue := by decide +kernel
theorem wiX12_addsValue_X12 : ∀ w ∈ u_ws RX12 TX12 34, w ∈ wsX12_addsValue := by decide +kernel
theorem wfX12_addsValue_72 : Cond.fieldLink RX12 72 "FieldScribeModel" (TX12 28).2.1 (TX12 28).2.2.1 ∈ wsX12_addsValue := by decide +kernel
theorem wfX12_becomes_94 : Cond.fieldLink RX12 94 "FieldScribeModel" (TX12 31).2.1 (TX12 31).2.2.1 ∈ wsX12_becomes := by decide +kernel
theorem wiX12_becomes_X12 : ∀ w ∈ u_ws RX12 TX12 34, w ∈ wsX12_becomes := by decide +kernel
theorem wfX12_becomes_91 : Cond.fieldLink RX12 91 "FieldScribeModel" (TX12 2).2.1 (TX12 2).2.2.1 ∈ wsX12_becomes := by decide +kernel
theorem wfX12_becomes_13 : Cond.fieldLink RX12 13 "FieldScribeModel" (TX12 1).2.1 (TX12 1).2.2.1 ∈ wsX12_becomes := by decide +kernel
theorem wfX12_becomes_75 : Cond.fieldLink RX12 75 "FieldScribeModel" (TX12 30).2.1 (TX12 30).2.2.1 ∈ wsX12_becomes := by decide +kernel
theorem wfX12_sets_94 : Cond.fieldLink RX12 94 "FieldScribeModel" (TX12 31).2.1 (TX12 31).2.2.1 ∈ wsX12_sets := by decide +kernel
theorem wiX12_sets_X12 : ∀ w ∈ u_ws RX12 TX12 34, w ∈ wsX12_sets := by decide +kernel
theorem wfX12_sets_88 : Cond.fieldLink RX12 88 "FieldScribeModel" (TX12 3).2.1 (TX12 3).2.2.1 ∈ wsX12_sets := by decide +kernel
theorem wfX12_sets_13 : Cond.fieldLink RX12 13 "FieldScribeModel" (TX12 1).2.1 (TX12 1).2.2.1 ∈ wsX12_sets := by decide +kernel
theorem wfX12_sets_7 : Cond.fieldLink RX12 7 "FieldScribeModel" (TX12 0).2.1 (TX12 0).2.2.1 ∈ wsX12_sets := by decide +kernel
def mch (js ks : List Nat) (I : Nat → Int32) (M : Nat → Nat → Int32) (I' : Nat → Int32) (M' : Nat → Nat → Int32) : Prop := (∀ j, j ∉ js → I' j = I j) ∧ ∀ j, j ∉ ks → M' j = M j
theorem mch.rf {js ks : List Nat} {I : Nat → Int32} {M : Nat → Nat → Int32} : mch js ks I M I M := ⟨fun _ _ => rfl, fun _ _ => rfl⟩
theorem mch.tr {js ks : List Nat} {I I' I'' : Nat → Int32} {M M' M'' : Nat → Nat → Int32} (h : mch js ks I M I' M') (h2 : mch js ks I' M' I'' M'') : mch js ks I M I'' M'' := ⟨fun j hj => (h2.1 j hj).trans (h.1 j hj), fun j hj => (h2.2 j hj).trans (h.2 j hj)⟩
theorem mch.mo {js ks js' ks' : List Nat} {I I' : Nat → Int32} {M M' : Nat → Nat → Int32} (h : mch js ks I M I' M') (h1 : ∀ j ∈ js, j ∈ js') (h2 : ∀ j ∈ ks, j ∈ ks') : mch js' ks' I M I' M' := ⟨fun j hj => h.1 j (fun z => hj (h1 j z)), fun j hj => h.2 j (fun z => hj (h2 j z))⟩
theorem mch_I {js ks : List Nat} {I : Nat → Int32} {M : Nat → Nat → Int32} {j : Nat} (hj : j ∈ js) (v : Int32) : mch js ks I M (va_up I j v) M := ⟨fun i hi => va_up_other _ _ _ (fun z => hi (by rw [z]; exact hj)), fun _ _ => rfl⟩
theorem mch_M {js ks : List Nat} {I : Nat → Int32} {M : Nat → Nat → Int32} {j : Nat} (hj : j ∈ ks) (g : Nat → Int32) : mch js ks I M I (va_up M j g) := ⟨fun _ _ => rfl, fun i hi => va_up_other _ _ _ (fun z => hi (by rw [z]; exact hj))⟩
/-- a text in the array j, its length in i -/
def mTx (i j : Nat) (I : Nat → Int32) (M : Nat → Nat → Int32) (s : List Int32) : Prop := I i = nI s.length ∧ s.length ≤ 60 ∧ ∀ k, k < s.length → M j k = s.getD k 0
theorem mTx.ch {i j : Nat} {I I' : Nat → Int32} {M M' : Nat → Nat → Int32} {s : List Int32} {js ks : List Nat} (h : mTx i j I M s) (c : mch js ks I M I' M') (h1 : i ∉ js) (h2 : j ∉ ks) : mTx i j I' M' s := ⟨by rw [c.1 i h1]; exact h.1, h.2.1, fun k hk => by rw [c.2 j h2]; exact h.2.2 k hk⟩
theorem mCut.ch {I I' : Nat → Int32} {M M' : Nat → Nat → Int32} {sep : Int32} {r : List Int32} {js ks : List Nat} (h : mCut I M sep r) (c : mch js ks I M I' M') (h0 : 0 ∉ js) (h3 : 3 ∉ js) (h4 : 4 ∉ ks) (h5 : 5 ∉ ks) : mCut I' M' sep r := ⟨by rw [c.1 0 h0]; exact h.1, by rw [c.1 3 h3]; exact h.2.1, fun k hk => by rw [c.2 4 h4, c.2 5 h5]; exact h.2.2 k hk⟩
theorem getD_take {s : List Int32} {n k : Nat} (h : k < n) : (s.take n).getD k 0 = s.getD k 0 := by simp [List.getD_eq_getElem?_getD, List.getElem?_take, h]
theorem take_snoc {s : List Int32} {k : Nat} (h : k < s.length) : s.take (k + 1) = s.take k ++ [s.getD k 0] := by
  rw [List.take_add_one, List.getD_eq_getElem?_getD, List.getElem?_eq_getElem h]; rfl
section MS
variable {l : Launch} {D : va_G} {tys : List (ClassId × FieldType)} {z0 : Nat} {A : Nat → Prop} {cI cZ : ClassId} {md : Nat} {ad : Nat → Nat} {I : Nat → Int32} {M : Nat → Nat → Int32} {sep : Int32} {r u v : List Int32}
set_option maxRecDepth 100000 in
set_option maxHeartbeats 4000000 in
theorem m_adds (ht1 : tys[1]? = some (cI, .int)) (h1 : mTx 31 30 I M u) (c0 : Int32) : ct D tys z0 A (picM D cI cZ md ad A) l yX12_adds wsX12_adds rm0 [.ref md, .int c0] (I, M) (qV (picM D cI cZ md ad A) A (fun x => ∃ I' M', x = (I', M') ∧ mTx 31 30 I' M' (put60 u c0) ∧ mch [31] [30] I M I' M')) := by
  obtain ⟨h2, h3, h4⟩ := h1
  refine ct_of RX12 (by decide +kernel) rfl rfl (Nat.le_of_ble_eq_true rfl) ?_
  intro p e s m below meth c C hr hm
  refine v_lv (lv' := [(0, _), (1, _)]) rfl ?_
  refine v_aload_n C dX12_adds_0 (j := 0) rfl rfl ?_
  refine v_get C (T := TX12) (ci := 12) (j := 31) dX12_adds_1 wiX12_adds_X12 rfl (by decide) wfX12_adds_94 (fun _ h => h) (M_int rfl (by decide)) ?_
  rw [h2]
  refine v_bipush C dX12_adds_4 (v := 60) (by decide) ?_
  refine v_icmp_ge C 29 dX12_adds_6 (by decide) (fun c1 => ?_) (fun c1 => ?_)
  · skip
    have c2 := le_of (a := 60) c1 (by decide) (by omega)
    exact v_return C dX12_adds_29 hr (Nat.le_of_ble_eq_true rfl) (Nat.le_of_ble_eq_true rfl) (⟨I, M, rfl, by unfold put60; rw [if_neg (by omega)]; exact ⟨h2, h3, h4⟩, mch.rf⟩)
  · skip
    have c2 : u.length < 60 := lt_ofn (a := 60) c1 (by decide) (by omega)
    refine v_aload_n C dX12_adds_9 (j := 0) rfl rfl ?_
    refine v_get C (T := TX12) (ci := 12) (j := 30) dX12_adds_10 wiX12_adds_X12 rfl (by decide) wfX12_adds_75 (fun _ h => h) (M_ref rfl (by decide)) ?_
    refine v_aload_n C dX12_adds_13 (j := 0) rfl rfl ?_
    refine v_get C (T := TX12) (ci := 12) (j := 31) dX12_adds_14 wiX12_adds_X12 rfl (by decide) wfX12_adds_94 (fun _ h => h) (M_int rfl (by decide)) ?_
    rw [h2]
    refine v_iload_n C dX12_adds_17 (j := 1) rfl rfl ?_
    refine v_iast C dX12_adds_18 1 ht1 (vp_in_nI (by show u.length < 60; omega) (by decide)) (M_set (j := 30) rfl _) ?_
    rw [nI_clamp (by omega)]
    refine v_aload_n C dX12_adds_19 (j := 0) rfl rfl ?_
    refine v_dup C dX12_adds_20 rfl ?_
    refine v_get C (T := TX12) (ci := 12) (j := 31) dX12_adds_21 wiX12_adds_X12 rfl (by decide) wfX12_adds_94 (fun _ h => h) (M_int rfl (by decide)) ?_
    rw [h2]
    refine v_iconst C dX12_adds_24 (v := 1) (by decide) ?_
    refine v_iadd C dX12_adds_25 ?_
    rw [nI_1]
    refine v_put C (T := TX12) (ci := 12) (j := 31) (ty := .int) dX12_adds_26 wiX12_adds_X12 tyX12 tyX12_ok nmX12 rfl (by decide) wfX12_adds_94 (fun _ h => h) rfl rfl (rfl) (rfl) (M_put rfl (by decide) _) ?_
    exact v_return C dX12_adds_29 hr (Nat.le_of_ble_eq_true rfl) (Nat.le_of_ble_eq_true rfl) (⟨_, _, rfl, by unfold put60; rw [if_pos c2]; exact ⟨by rw [va_up_same]; simp, by simp; omega, fun k hk => by rw [va_up_same]; unfold upd; simp only [List.length_append, List.length_singleton] at hk; by_cases hku : k = u.length; rw [if_pos hku, hku]; simp [List.getD_eq_getElem?_getD]; rw [if_neg hku, h4 k (by omega)]; simp only [List.getD_eq_getElem?_getD]; rw [List.getElem?_append_left (by omega)]⟩, (mch_M (by decide) _).tr (mch_I (by decide) _)⟩)
set_option maxRecDepth 100000 in
set_option maxHeartbeats 4000000 in
theorem m_addsValue (ht1 : tys[1]? = some (cI, .int)) (h1 : mTx 31 30 I M u) (hv : mTx 29 28 I M v) : ct D tys z0 A (picM D cI cZ md ad A) l yX12_addsValue wsX12_addsValue (rmL 1 21) [.ref md] (I, M) (qV (picM D cI cZ md ad A) A (fun x => ∃ I' M', x = (I', M') ∧ mTx 31 30 I' M' (app60 u v) ∧ mch [31] [30] I M I' M')) := by
  refine ct_of RX12 (by decide +kernel) rfl rfl (Nat.le_of_ble_eq_true rfl) ?_
  intro p e s m below meth c C hr hm
  refine v_lv (lv' := [(0, _)]) rfl ?_
  refine v_iconst C dX12_addsValue_0 (v := 0) (by decide) ?_
  refine v_istore_n C dX12_addsValue_1 rfl (by decide) (lv' := [(1, _), (0, _)]) rfl ?_
  obtain ⟨k, I1, M1, hk, e1, e2, hc, hm⟩ : ∃ (k : Nat) (I1 : Nat → Int32) (M1 : Nat → Nat → Int32), k = 0 ∧ I1 = I ∧ M1 = M ∧ mch [31] [30] I M I1 M1 ∧ mTx 31 30 I1 M1 (app60 u (v.take k)) := ⟨0, I, M, rfl, rfl, rfl, mch.rf, by rw [List.take_zero, app60_nil h1.2.1]; exact h1⟩
  refine v_x (x' := (I1, M1)) (fun H hP => by rw [e1, e2]; exact hP) ?_
  refine v_lv (lv' := [(1, .int (nI k)), (0, _)]) (by rw [hk]; rfl) ?_
  have hkl : k ≤ v.length := by omega
  have hv60 := hv.2.1
  clear hk e1 e2
  induction hd : (v.length - k) using Nat.strongRecOn generalizing I1 M1 k with | _ d ih =>
    have hv1 := hv.ch hc (by decide) (by decide)
    refine v_iload_n C dX12_addsValue_2 (j := 0) rfl rfl ?_
    refine v_aload_n C dX12_addsValue_3 (j := 1) rfl rfl ?_
    refine v_get C (T := TX12) (ci := 12) (j := 29) dX12_addsValue_4 wiX12_addsValue_X12 rfl (by decide) wfX12_addsValue_100 (fun _ h => h) (M_int rfl (by decide)) ?_
    rw [hv1.1]
    refine v_icmp_ge C 26 dX12_addsValue_7 (by decide) (fun c1 => ?_) (fun c1 => ?_)
    · skip
      have c2 := le_of c1 (by omega) (by omega)
      exact v_return C dX12_addsValue_26 hr (Nat.le_of_ble_eq_true rfl) (Nat.le_of_ble_eq_true rfl) (⟨I1, M1, rfl, by rw [List.take_of_length_le c2] at hm; exact hm, hc⟩)
    · skip
      have c2 : k < v.length := lt_ofn c1 (by omega) (by omega)
      refine v_aload_n C dX12_addsValue_10 (j := 1) rfl rfl ?_
      refine v_aload_n C dX12_addsValue_11 (j := 1) rfl rfl ?_
      refine v_get C (T := TX12) (ci := 12) (j := 28) dX12_addsValue_12 wiX12_addsValue_X12 rfl (by decide) wfX12_addsValue_72 (fun _ h => h) (M_ref rfl (by decide)) ?_
      refine v_iload_n C dX12_addsValue_15 (j := 0) rfl rfl ?_
      refine v_iald C dX12_addsValue_16 1 ht1 (M_arr (j := 28) rfl) (vp_in_nI (by show k < 60; omega) (by decide)) ?_
      refine v_int (b := v.getD k 0) (by rw [nI_clamp (by omega)]; exact hv1.2.2 k c2) ?_
      refine v_cv (v_runV C (m_adds ht1 hm (v.getD k 0)) (cwV 1 C.1.2.2.2.2 gX12_addsValue_X12_adds rfl rfl rfl (by decide +kernel) ⟨Nat.le_of_ble_eq_true rfl, Nat.le_of_ble_eq_true rfl⟩) rfl rfl (M_gC) dX12_addsValue_17 (rest := []) (Nat.le_of_ble_eq_true rfl) rfl ⟨(by first | exact Nat.le_of_ble_eq_true rfl | (dsimp only; omega)), (by first | exact Nat.le_of_ble_eq_true rfl | (dsimp only; omega))⟩) (fun x' hx' => ?_)
      obtain ⟨I2, M2, rfl, g1, g2⟩ := hx'
      refine v_iinc C dX12_addsValue_20 (j := 0) (v := _ + 1) rfl rfl (by decide) (lv' := [(1, _), (0, _)]) rfl ?_
      refine v_goto C 2 dX12_addsValue_23 (by decide) ?_
      rw [nI_1]
      exact ih (v.length - (k + 1)) (by omega) (k + 1) I2 M2 (hc.tr g2) (by rw [take_snoc c2, app60_snoc]; exact g1) (by omega) rfl
set_option maxRecDepth 100000 in
set_option maxHeartbeats 4000000 in
theorem m_becomes (ht1 : tys[1]? = some (cI, .int)) (h1 : mTx 31 30 I M u) (h0 : I 0 = sep) : ct D tys z0 A (picM D cI cZ md ad A) l yX12_becomes wsX12_becomes (rmL 1 21) [.ref md] (I, M) (qV (picM D cI cZ md ad A) A (fun x => ∃ I' M', x = (I', M') ∧ mRec I' M' u ∧ mCut I' M' sep u ∧ mch [2, 3] [1, 4, 5] I M I' M')) := by
  refine ct_of RX12 (by decide +kernel) rfl rfl (Nat.le_of_ble_eq_true rfl) ?_
  intro p e s m below meth c C hr hm
  refine v_lv (lv' := [(0, _)]) rfl ?_
  refine v_aload_n C dX12_becomes_0 (j := 0) rfl rfl ?_
  refine v_aload_n C dX12_becomes_1 (j := 0) rfl rfl ?_
  refine v_get C (T := TX12) (ci := 12) (j := 31) dX12_becomes_2 wiX12_becomes_X12 rfl (by decide) wfX12_becomes_94 (fun _ h => h) (M_int rfl (by decide)) ?_
  rw [h1.1]
  refine v_put C (T := TX12) (ci := 12) (j := 2) (ty := .int) dX12_becomes_5 wiX12_becomes_X12 tyX12 tyX12_ok nmX12 rfl (by decide) wfX12_becomes_91 (fun _ h => h) rfl rfl (rfl) (rfl) (M_put rfl (by decide) _) ?_
  refine v_iconst C dX12_becomes_8 (v := 0) (by decide) ?_
  refine v_istore_n C dX12_becomes_9 rfl (by decide) (lv' := [(1, _), (0, _)]) rfl ?_
  obtain ⟨k, I1, M1, hk, e1, e2, hc, h2, hcp⟩ : ∃ (k : Nat) (I1 : Nat → Int32) (M1 : Nat → Nat → Int32), k = 0 ∧ I1 = va_up I 2 (nI u.length) ∧ M1 = M ∧ mch [2] [1] I M I1 M1 ∧ I1 2 = nI u.length ∧ ∀ j, j < k → M1 1 j = u.getD j 0 := ⟨0, _, M, rfl, rfl, rfl, mch_I (by decide) _, va_up_same _ _ _, fun j hj => absurd hj (Nat.not_lt_zero j)⟩
  refine v_x (x' := (I1, M1)) (fun H hP => by rw [e1, e2]; exact hP) ?_
  refine v_lv (lv' := [(1, .int (nI k)), (0, _)]) (by rw [hk]; rfl) ?_
  have hkl : k ≤ u.length := by omega
  have hu60 := h1.2.1
  clear hk e1 e2
  induction hd : (u.length - k) using Nat.strongRecOn generalizing I1 M1 k with | _ d ih =>
    have hm1 : ∀ j, j < u.length → M1 30 j = u.getD j 0 := fun j hj => by rw [hc.2 30 (by decide)]; exact h1.2.2 j hj
    refine v_iload_n C dX12_becomes_10 (j := 0) rfl rfl ?_
    refine v_aload_n C dX12_becomes_11 (j := 1) rfl rfl ?_
    refine v_get C (T := TX12) (ci := 12) (j := 2) dX12_becomes_12 wiX12_becomes_X12 rfl (by decide) wfX12_becomes_91 (fun _ h => h) (M_int rfl (by decide)) ?_
    rw [h2]
    refine v_icmp_ge C 36 dX12_becomes_15 (by decide) (fun c1 => ?_) (fun c1 => ?_)
    · skip
      have c2 : k = u.length := by have := le_of c1 (by omega) (by omega); omega
      subst c2
      refine v_aload_n C dX12_becomes_36 (j := 1) rfl rfl ?_
      refine v_cv (v_runV C (m_cuts (sep := sep) ht1 (r := u) ⟨h2, hu60, hcp⟩ (by rw [hc.1 0 (by decide)]; exact h0)) (cwV 0 C.1.2.2.2.2 gX12_becomes_X12_cuts rfl rfl rfl (by decide +kernel) ⟨Nat.le_of_ble_eq_true rfl, Nat.le_of_ble_eq_true rfl⟩) rfl rfl (M_gC) dX12_becomes_37 (rest := []) (Nat.le_of_ble_eq_true rfl) rfl ⟨(by first | exact Nat.le_of_ble_eq_true rfl | (dsimp only; omega)), (by first | exact Nat.le_of_ble_eq_true rfl | (dsimp only; omega))⟩) (fun x' hx' => ?_)
      obtain ⟨I2, M2, rfl, g1, g2, g3⟩ := hx'
      have hc2 : mch [2, 3] [1, 4, 5] I1 M1 I2 M2 := ⟨fun j hj => g2 j (fun z => hj (by rw [z]; decide)), fun j hj => g3 j (fun z => hj (by rw [z]; decide)) (fun z => hj (by rw [z]; decide))⟩
      exact v_return C dX12_becomes_40 hr (Nat.le_of_ble_eq_true rfl) (Nat.le_of_ble_eq_true rfl) (⟨I2, M2, rfl, ⟨by rw [g2 2 (by decide)]; exact h2, hu60, fun j hj => by rw [g3 1 (by decide) (by decide)]; exact hcp j hj⟩, g1, (hc.mo (by decide) (by decide)).tr hc2⟩)
    · skip
      have c2 : k < u.length := lt_ofn c1 (by omega) (by omega)
      refine v_aload_n C dX12_becomes_18 (j := 1) rfl rfl ?_
      refine v_get C (T := TX12) (ci := 12) (j := 1) dX12_becomes_19 wiX12_becomes_X12 rfl (by decide) wfX12_becomes_13 (fun _ h => h) (M_ref rfl (by decide)) ?_
      refine v_iload_n C dX12_becomes_22 (j := 0) rfl rfl ?_
      refine v_aload_n C dX12_becomes_23 (j := 1) rfl rfl ?_
      refine v_get C (T := TX12) (ci := 12) (j := 30) dX12_becomes_24 wiX12_becomes_X12 rfl (by decide) wfX12_becomes_75 (fun _ h => h) (M_ref rfl (by decide)) ?_
      refine v_iload_n C dX12_becomes_27 (j := 0) rfl rfl ?_
      refine v_iald C dX12_becomes_28 1 ht1 (M_arr (j := 30) rfl) (vp_in_nI (by show k < 60; omega) (by decide)) ?_
      refine v_int (b := u.getD k 0) (by rw [nI_clamp (by omega)]; exact hm1 k c2) ?_
      refine v_iast C dX12_becomes_29 1 ht1 (vp_in_nI (by show k < 60; omega) (by decide)) (M_set (j := 1) rfl _) ?_
      rw [nI_clamp (by omega)]
      refine v_iinc C dX12_becomes_30 (j := 0) (v := _ + 1) rfl rfl (by decide) (lv' := [(1, _), (0, _)]) rfl ?_
      refine v_goto C 10 dX12_becomes_33 (by decide) ?_
      rw [nI_1]
      exact ih (u.length - (k + 1)) (by omega) (k + 1) _ _ (hc.tr (mch_M (by decide) _)) h2 (fun j hj => by rw [va_up_same]; unfold upd; by_cases hjk : j = k; rw [if_pos hjk, hjk]; rw [if_neg hjk]; exact hcp j (by omega)) (by omega) rfl
set_option maxRecDepth 100000 in
set_option maxHeartbeats 4000000 in
theorem m_from (ht1 : tys[1]? = some (cI, .int)) {k b : Nat} (hk : k ≤ 12) (hb : bOf I M k = nI b) : ct D tys z0 A (picM D cI cZ md ad A) l yX12_from wsX12_from rm0 [.ref md, .int (nI k)] (I, M) (qI (picM D cI cZ md ad A) A (fun q x => x = (I, M) ∧ q = nI b)) := by
  have := m_from0 (l := l) (D := D) (z0 := z0) (A := A) (cZ := cZ) (md := md) (ad := ad) (I := I) (M := M) ht1 hk
  rw [hb] at this
  exact this
theorem m_to (ht1 : tys[1]? = some (cI, .int)) {k e : Nat} (hk : k ≤ 12) (he : eOf I M k = nI e) : ct D tys z0 A (picM D cI cZ md ad A) l yX12_to wsX12_to rm0 [.ref md, .int (nI k)] (I, M) (qI (picM D cI cZ md ad A) A (fun q x => x = (I, M) ∧ q = nI e)) := by
  have := m_to0 (l := l) (D := D) (z0 := z0) (A := A) (cZ := cZ) (md := md) (ad := ad) (I := I) (M := M) ht1 hk
  rw [he] at this
  exact this
theorem be_ch {I' : Nat → Int32} {M' : Nat → Nat → Int32} {js ks : List Nat} {k : Nat} (c : mch js ks I M I' M') (h2 : 2 ∉ js) (h3 : 3 ∉ js) (h4 : 4 ∉ ks) (h5 : 5 ∉ ks) : bOf I' M' k = bOf I M k ∧ eOf I' M' k = eOf I M k := by
  unfold bOf eOf
  rw [c.1 3 h3, c.1 2 h2, c.2 4 h4, c.2 5 h5]
  exact ⟨rfl, rfl⟩
theorem m_setsE (F : Nat → List Int32) (j : Nat) (hj : 1 ≤ j) : joinG sep F j = app60 (if j = 1 then [] else put60 (joinG sep F (j - 1)) sep) (F j) := by
  obtain ⟨m, rfl⟩ : ∃ m, j = m + 1 := ⟨j - 1, by omega⟩
  show app60 (if m = 0 then [] else put60 (joinG sep F m) sep) (F (m + 1)) = _
  by_cases h : m = 0
  · rw [if_pos h, if_pos (by omega)]
  · rw [if_neg h, if_neg (by omega)]; rfl
set_option maxRecDepth 100000 in
set_option maxHeartbeats 8000000 in
theorem m_sets (ht1 : tys[1]? = some (cI, .int)) (hR : mRec I M r) (hC : mCut I M sep r) (hv : mTx 29 28 I M v) {its : Nat} (hk : its ≤ 12) : ct D tys z0 A (picM D cI cZ md ad A) l yX12_sets wsX12_sets (rmL 2 42) [.ref md, .int (nI its)] (I, M) (qV (picM D cI cZ md ad A) A (fun x => ∃ I' M', x = (I', M') ∧ mRec I' M' (setR sep r its v) ∧ mCut I' M' sep (setR sep r its v) ∧ mch [2, 3, 31] [1, 4, 5, 30] I M I' M')) := by
  have hn := nfd_le sep r
  refine ct_of RX12 (by decide +kernel) rfl rfl (Nat.le_of_ble_eq_true rfl) ?_
  intro p e s m below meth c C hr hm
  refine v_lv (lv' := [(0, _), (1, _)]) rfl ?_
  refine v_aload_n C dX12_sets_0 (j := 0) rfl rfl ?_
  refine v_iconst C dX12_sets_1 (v := 0) (by decide) ?_
  refine v_put C (T := TX12) (ci := 12) (j := 31) (ty := .int) dX12_sets_2 wiX12_sets_X12 tyX12 tyX12_ok nmX12 rfl (by decide) wfX12_sets_94 (fun _ h => h) rfl rfl (rfl) (rfl) (M_put rfl (by decide) _) ?_
  have c0 : mch [31] [30] I M (va_up I 31 0) M := mch_I (by decide) _
  have m0 : mTx 31 30 (va_up I 31 0) M [] := ⟨va_up_same _ _ _, by decide, fun k hk => absurd hk (Nat.not_lt_zero k)⟩
  refine v_iload_n C dX12_sets_5 (j := 1) rfl rfl ?_
  refine v_aload_n C dX12_sets_6 (j := 0) rfl rfl ?_
  refine v_get C (T := TX12) (ci := 12) (j := 3) dX12_sets_7 wiX12_sets_X12 rfl (by decide) wfX12_sets_88 (fun _ h => h) (M_int rfl (by decide)) ?_
  rw [show va_up I 31 0 3 = nI (nfd sep r) from hC.2.1]
  refine v_cut (pcj := 21) (lvj := [(0, .ref md), (1, .int (nI its))]) (stj := []) (fun w => w = nI (max (nfd sep r) its)) (fun w hw => ?_) (fun K => ?_)
  · skip
    subst hw
    refine v_istore_n C dX12_sets_21 rfl (by decide) (lv' := [(2, _), (0, _), (1, _)]) rfl ?_
    refine v_iload_n C dX12_sets_22 (j := 2) rfl rfl ?_
    refine v_cutX (pcj := 30) (fun w : mS => w) (fun _ => [(2, .int (nI (max (nfd sep r) its))), (0, .ref md), (1, .int (nI its))]) (fun _ => []) (fun w => mch [31] [30] I M w.1 w.2 ∧ mTx 31 30 w.1 w.2 (if its = 0 then v else [])) (fun w hw => ?_) (fun K => ?_)
    · skip
      obtain ⟨I1, M1⟩ := w
      obtain ⟨w1, w2⟩ := hw
      dsimp only at w1 w2
      refine v_iconst C dX12_sets_30 (v := 1) (by decide) ?_
      refine v_istore_n C dX12_sets_31 rfl (by decide) (lv' := [(3, _), (2, _), (0, _), (1, _)]) rfl ?_
      obtain ⟨j, hj, hj1, hm⟩ : ∃ j : Nat, j = 1 ∧ 1 ≤ j ∧ mTx 31 30 I1 M1 (if its = 0 then v else joinG sep (va_up (fld sep r) its v) (j - 1)) := ⟨1, rfl, Nat.le_refl _, by by_cases hz : its = 0; rw [if_pos hz] at w2 ⊢; exact w2; rw [if_neg hz] at w2 ⊢; exact w2⟩
      refine v_lv (lv' := [(3, .int (nI j)), (2, _), (0, _), (1, _)]) (by rw [hj]; rfl) ?_
      have hjl : j ≤ 13 ∧ j ≤ max (nfd sep r) its + 1 := by omega
      clear hj w2
      induction hd : (13 - j) using Nat.strongRecOn generalizing I1 M1 j with | _ d ih =>
        refine v_cut0 (pcj := 106) (lvj := [(0, .ref md)]) (stj := []) (its = 0 ∨ j = max (nfd sep r) its + 1) (fun hw => ?_) (fun K2 => ?_)
        · skip
          have e9 : (if its = 0 then v else joinG sep (va_up (fld sep r) its v) (j - 1)) = setR sep r its v := by
              unfold setR
              by_cases hz : its = 0
              · rw [if_pos hz, if_pos hz]
              · rw [if_neg hz, if_neg hz]
                rcases hw with q | q
                · exact absurd q hz
                · rw [q, Nat.add_sub_cancel]
          rw [e9] at hm
          refine v_aload_n C dX12_sets_106 (j := 0) rfl rfl ?_
          refine v_cv (v_runV C (m_becomes (sep := sep) ht1 hm (by rw [w1.1 0 (by decide)]; exact hC.1)) (cwV 0 C.1.2.2.2.2 gX12_sets_X12_becomes rfl rfl rfl (by decide +kernel) ⟨Nat.le_of_ble_eq_true rfl, Nat.le_of_ble_eq_true rfl⟩) rfl rfl (M_gC) dX12_sets_107 (rest := []) (Nat.le_of_ble_eq_true rfl) rfl ⟨(by first | exact Nat.le_of_ble_eq_true rfl | (dsimp only; omega)), (by first | exact Nat.le_of_ble_eq_true rfl | (dsimp only; omega))⟩) (fun x' hx' => ?_)
          obtain ⟨I2, M2, rfl, g1, g2, g3⟩ := hx'
          exact v_return C dX12_sets_110 hr (Nat.le_of_ble_eq_true rfl) (Nat.le_of_ble_eq_true rfl) (⟨I2, M2, rfl, g1, g2, (w1.mo (by decide) (by decide)).tr (g3.mo (by decide) (by decide))⟩)
        · skip
          refine v_iload_n C dX12_sets_32 (j := 0) rfl rfl ?_
          refine v_iload_n C dX12_sets_33 (j := 1) rfl rfl ?_
          refine v_icmp_gt C 106 dX12_sets_34 (by decide) (fun c1 => ?_) (fun c1 => ?_)
          · skip
            exact v_sub [2] rfl (K2 (Or.inr (by have := lt_of c1 (by omega) (by omega); omega)))
          · skip
            have c2 : j ≤ max (nfd sep r) its := le_ofn c1 (by omega) (by omega)
            refine v_iload_n C dX12_sets_37 (j := 3) rfl rfl ?_
            refine v_if_le C 106 dX12_sets_38 (by decide) (fun c3 => ?_) (fun c3 => ?_)
            · skip
              exact v_sub [2] rfl (K2 (Or.inl (by have := (nI_leI (a := its) (b := 0) (by omega) (by decide)).mp c3; omega)))
            · skip
              have hz : its ≠ 0 := fun z => c3 (by rw [z]; exact Int32.le_refl _)
              rw [if_neg hz] at hm
              refine v_cutX (pcj := 54) (fun w : mS => w) (fun _ => [(3, .int (nI j)), (2, .int (nI (max (nfd sep r) its))), (0, .ref md), (1, .int (nI its))]) (fun _ => []) (fun w => mch [31] [30] I M w.1 w.2 ∧ mTx 31 30 w.1 w.2 (if j = 1 then [] else put60 (joinG sep (va_up (fld sep r) its v) (j - 1)) sep)) (fun w hw => ?_) (fun K3 => ?_)
              · skip
                obtain ⟨I2, M2⟩ := w
                obtain ⟨w3, w4⟩ := hw
                dsimp only at w3 w4
                refine v_cutX (pcj := 100) (fun w : mS => w) (fun _ => [(3, .int (nI j)), (2, .int (nI (max (nfd sep r) its))), (0, .ref md), (1, .int (nI its))]) (fun _ => []) (fun w => mch [31] [30] I M w.1 w.2 ∧ mTx 31 30 w.1 w.2 (joinG sep (va_up (fld sep r) its v) j)) (fun w hw => ?_) (fun K4 => ?_)
                · skip
                  obtain ⟨I3, M3⟩ := w
                  obtain ⟨w5, w6⟩ := hw
                  dsimp only at w5 w6
                  refine v_iinc C dX12_sets_100 (j := 0) (v := _ + 1) rfl rfl (by decide) (lv' := [(3, _), (2, _), (0, _), (1, _)]) rfl ?_
                  refine v_goto C 32 dX12_sets_103 (by decide) ?_
                  rw [nI_1]
                  exact ih (13 - (j + 1)) (by omega) I3 M3 w5 (j + 1) (by omega) (by rw [if_neg hz, Nat.add_sub_cancel]; exact w6) (by omega) rfl
                · skip
                  refine v_iload_n C dX12_sets_54 (j := 0) rfl rfl ?_
                  refine v_iload_n C dX12_sets_55 (j := 3) rfl rfl ?_
                  refine v_icmp_ne C 66 dX12_sets_56 (by decide) (fun c4 => ?_) (fun c4 => ?_)
                  · skip
                    have hji : j ≠ its := fun z => c4 (by rw [z])
                    obtain ⟨b, e, hb, he, hs1, hs2, hs3⟩ := be hR hC (k := j) (by omega)
                    have hbe := be_ch (k := j) w3 (by decide) (by decide) (by decide) (by decide)
                    refine v_aload_n C dX12_sets_66 (j := 2) rfl rfl ?_
                    refine v_iload_n C dX12_sets_67 (j := 0) rfl rfl ?_
                    refine v_ci (v_runV C (m_from ht1 (by omega) (hbe.1.trans hb)) (cwV 1 C.1.2.2.2.2 gX12_sets_X12_from rfl rfl rfl (by decide +kernel) ⟨Nat.le_of_ble_eq_true rfl, Nat.le_of_ble_eq_true rfl⟩) rfl rfl (M_gC) dX12_sets_68 (rest := []) (Nat.le_of_ble_eq_true rfl) rfl ⟨(by first | exact Nat.le_of_ble_eq_true rfl | (dsimp only; omega)), (by first | exact Nat.le_of_ble_eq_true rfl | (dsimp only; omega))⟩) (fun q x' hx' => ?_)
                    obtain ⟨rfl, rfl⟩ := hx'
                    refine v_istore C dX12_sets_71 (by decide) (lv' := [(4, _), (3, _), (2, _), (0, _), (1, _)]) rfl ?_
                    obtain ⟨jj, I3, M3, hjj, e1, e2, hc3, hm3, hjb, hje⟩ : ∃ (jj : Nat) (I3 : Nat → Int32) (M3 : Nat → Nat → Int32), jj = b ∧ I3 = I2 ∧ M3 = M2 ∧ mch [31] [30] I M I3 M3 ∧ mTx 31 30 I3 M3 (app60 (if j = 1 then [] else put60 (joinG sep (va_up (fld sep r) its v) (j - 1)) sep) ((r.drop b).take (jj - b))) ∧ b ≤ jj ∧ jj ≤ e := ⟨b, I2, M2, rfl, rfl, rfl, w3, by rw [Nat.sub_self, List.take_zero, app60_nil w4.2.1]; exact w4, Nat.le_refl _, hs1⟩
                    refine v_x (x' := (I3, M3)) (fun H hP => by rw [e1, e2]; exact hP) ?_
                    refine v_lv (lv' := [(4, .int (nI jj)), (3, _), (2, _), (0, _), (1, _)]) (by rw [hjj]) ?_
                    have hr60 := hR.2.1
                    clear hjj e1 e2
                    induction hd2 : (e - jj) using Nat.strongRecOn generalizing I3 M3 jj with | _ d2 ih2 =>
                      have hbe3 := be_ch (k := j) hc3 (by decide) (by decide) (by decide) (by decide)
                      refine v_iload C dX12_sets_73 (j := 0) rfl ?_
                      refine v_aload_n C dX12_sets_75 (j := 3) rfl rfl ?_
                      refine v_iload_n C dX12_sets_76 (j := 1) rfl rfl ?_
                      refine v_ci (v_runV C (m_to ht1 (by omega) (hbe3.2.trans he)) (cwV 1 C.1.2.2.2.2 gX12_sets_X12_to rfl rfl rfl (by decide +kernel) ⟨Nat.le_of_ble_eq_true rfl, Nat.le_of_ble_eq_true rfl⟩) rfl rfl (M_gC) dX12_sets_77 (rest := [_]) (Nat.le_of_ble_eq_true rfl) rfl ⟨(by first | exact Nat.le_of_ble_eq_true rfl | (dsimp only; omega)), (by first | exact Nat.le_of_ble_eq_true rfl | (dsimp only; omega))⟩) (fun q x' hx' => ?_)
                      obtain ⟨rfl, rfl⟩ := hx'
                      refine v_icmp_ge C 100 dX12_sets_80 (by decide) (fun c5 => ?_) (fun c5 => ?_)
                      · skip
                        have c6 : jj = e := by have := le_of c5 (by omega) (by omega); omega
                        refine v_sub [1, 2, 3, 4] rfl ?_
                        exact K4 (I3, M3) ⟨hc3, by rw [c6, ← hs3] at hm3; rw [m_setsE _ j hj1, va_up_other _ _ _ hji]; exact hm3⟩
                      · skip
                        have c6 : jj < e := lt_ofn c5 (by omega) (by omega)
                        refine v_aload_n C dX12_sets_83 (j := 3) rfl rfl ?_
                        refine v_aload_n C dX12_sets_84 (j := 3) rfl rfl ?_
                        refine v_get C (T := TX12) (ci := 12) (j := 1) dX12_sets_85 wiX12_sets_X12 rfl (by decide) wfX12_sets_13 (fun _ h => h) (M_ref rfl (by decide)) ?_
                        refine v_iload C dX12_sets_88 (j := 0) rfl ?_
                        refine v_iald C dX12_sets_90 1 ht1 (M_arr (j := 1) rfl) (vp_in_nI (by show jj < 60; omega) (by decide)) ?_
                        refine v_int (b := r.getD jj 0) (by rw [nI_clamp (by omega), hc3.2 1 (by decide)]; exact hR.2.2 jj (by omega)) ?_
                        refine v_cv (v_runV C (m_adds ht1 hm3 (r.getD jj 0)) (cwV 1 C.1.2.2.2.2 gX12_sets_X12_adds rfl rfl rfl (by decide +kernel) ⟨Nat.le_of_ble_eq_true rfl, Nat.le_of_ble_eq_true rfl⟩) rfl rfl (M_gC) dX12_sets_91 (rest := []) (Nat.le_of_ble_eq_true rfl) rfl ⟨(by first | exact Nat.le_of_ble_eq_true rfl | (dsimp only; omega)), (by first | exact Nat.le_of_ble_eq_true rfl | (dsimp only; omega))⟩) (fun x' hx' => ?_)
                        obtain ⟨I4, M4, rfl, g1, g2⟩ := hx'
                        refine v_iinc C dX12_sets_94 (j := 0) (v := _ + 1) rfl rfl (by decide) (lv' := [(4, _), (3, _), (2, _), (0, _), (1, _)]) rfl ?_
                        refine v_goto C 73 dX12_sets_97 (by decide) ?_
                        rw [nI_1]
                        exact ih2 (e - (jj + 1)) (by omega) (jj + 1) I4 M4 (hc3.tr g2) (by rw [← take_one hjb (by omega), app60_snoc]; exact g1) (by omega) (by omega) rfl
                  · skip
                    have hji : j = its := by have := congrArg Int32.toNatClampNeg c4; rw [nI_clamp (by omega), nI_clamp (by omega)] at this; exact this
                    refine v_aload_n C dX12_sets_59 (j := 2) rfl rfl ?_
                    refine v_cv (v_runV C (m_addsValue ht1 w4 (hv.ch w3 (by decide) (by decide))) (cwV 0 C.1.2.2.2.2 gX12_sets_X12_addsValue rfl rfl rfl (by decide +kernel) ⟨Nat.le_of_ble_eq_true rfl, Nat.le_of_ble_eq_true rfl⟩) rfl rfl (M_gC) dX12_sets_60 (rest := []) (Nat.le_of_ble_eq_true rfl) rfl ⟨(by first | exact Nat.le_of_ble_eq_true rfl | (dsimp only; omega)), (by first | exact Nat.le_of_ble_eq_true rfl | (dsimp only; omega))⟩) (fun x' hx' => ?_)
                    obtain ⟨I4, M4, rfl, g1, g2⟩ := hx'
                    refine v_goto C 100 dX12_sets_63 (by decide) ?_
                    exact K4 (I4, M4) ⟨w3.tr g2, by rw [m_setsE _ j hj1, show va_up (fld sep r) its v j = v by rw [hji, va_up_same]]; exact g1⟩
              · skip
                refine v_iload_n C dX12_sets_41 (j := 0) rfl rfl ?_
                refine v_iconst C dX12_sets_42 (v := 1) (by decide) ?_
                refine v_icmp_le C 54 dX12_sets_43 (by decide) (fun c4 => ?_) (fun c4 => ?_)
                · skip
                  have hj9 : j = 1 := by have := (nI_leI (a := j) (b := 1) (by omega) (by decide)).mp c4; omega
                  exact K3 (I1, M1) ⟨w1, by rw [if_pos hj9]; rw [hj9] at hm; exact hm⟩
                · skip
                  have hj9 : j ≠ 1 := fun z => c4 (by rw [z]; exact Int32.le_refl _)
                  refine v_aload_n C dX12_sets_46 (j := 2) rfl rfl ?_
                  refine v_aload_n C dX12_sets_47 (j := 2) rfl rfl ?_
                  refine v_get C (T := TX12) (ci := 12) (j := 0) dX12_sets_48 wiX12_sets_X12 rfl (by decide) wfX12_sets_7 (fun _ h => h) (M_int rfl (by decide)) ?_
                  rw [show I1 0 = sep from by rw [w1.1 0 (by decide)]; exact hC.1]
                  refine v_cv (v_runV C (m_adds ht1 hm sep) (cwV 1 C.1.2.2.2.2 gX12_sets_X12_adds rfl rfl rfl (by decide +kernel) ⟨Nat.le_of_ble_eq_true rfl, Nat.le_of_ble_eq_true rfl⟩) rfl rfl (M_gC) dX12_sets_51 (rest := []) (Nat.le_of_ble_eq_true rfl) rfl ⟨(by first | exact Nat.le_of_ble_eq_true rfl | (dsimp only; omega)), (by first | exact Nat.le_of_ble_eq_true rfl | (dsimp only; omega))⟩) (fun x' hx' => ?_)
                  obtain ⟨I4, M4, rfl, g1, g2⟩ := hx'
                  exact K3 (I4, M4) ⟨w1.tr g2, by rw [if_neg hj9]; exact g1⟩
    · skip
      refine v_if_ne C 30 dX12_sets_23 (by decide) (fun c1 => ?_) (fun c1 => ?_)
      · skip
        have hz : its ≠ 0 := fun z => c1 (by rw [z]; rfl)
        exact K _ ⟨c0, by rw [if_neg hz]; exact m0⟩
      · skip
        have hz : its = 0 := by have := congrArg Int32.toNatClampNeg c1; rw [nI_clamp (by omega)] at this; exact this
        refine v_aload_n C dX12_sets_26 (j := 1) rfl rfl ?_
        refine v_cv (v_runV C (m_addsValue ht1 m0 (hv.ch c0 (by decide) (by decide))) (cwV 0 C.1.2.2.2.2 gX12_sets_X12_addsValue rfl rfl rfl (by decide +kernel) ⟨Nat.le_of_ble_eq_true rfl, Nat.le_of_ble_eq_true rfl⟩) rfl rfl (M_gC) dX12_sets_27 (rest := []) (Nat.le_of_ble_eq_true rfl) rfl ⟨(by first | exact Nat.le_of_ble_eq_true rfl | (dsimp only; omega)), (by first | exact Nat.le_of_ble_eq_true rfl | (dsimp only; omega))⟩) (fun x' hx' => ?_)
        obtain ⟨I4, M4, rfl, g1, g2⟩ := hx'
        have e7 : app60 [] v = v := by unfold app60; rw [List.nil_append, List.take_of_length_le hv.2.1]
        rw [e7] at g1
        exact K (I4, M4) ⟨c0.tr g2, by rw [if_pos hz]; exact g1⟩
  · skip
    refine v_icmp_le C 17 dX12_sets_10 (by decide) (fun c1 => ?_) (fun c1 => ?_)
    · skip
      have c2 := (nI_leI (a := its) (b := nfd sep r) (by omega) (by omega)).mp c1
      refine v_aload_n C dX12_sets_17 (j := 0) rfl rfl ?_
      refine v_get C (T := TX12) (ci := 12) (j := 3) dX12_sets_18 wiX12_sets_X12 rfl (by decide) wfX12_sets_88 (fun _ h => h) (M_int rfl (by decide)) ?_
      exact K _ (by rw [show va_up I 31 0 3 = nI (nfd sep r) from hC.2.1, Nat.max_eq_left c2])
    · skip
      have c2 : nfd sep r < its := lt_ofn c1 (by omega) (by omega)
      refine v_iload_n C dX12_sets_13 (j := 1) rfl rfl ?_
      refine v_goto C 21 dX12_sets_14 (by decide) ?_
      exact K _ (by rw [Nat.max_eq_right (by omega)])
end MS
