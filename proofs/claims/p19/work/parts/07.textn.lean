/-! ===== Text: numbers and comparing ===== -/
theorem wfX10_asNumber_9 : Cond.fieldLink RX10 9 "FieldScribe$Text" (TX10 0).2.1 (TX10 0).2.2.1 ∈ wsX10_asNumber := by decide +kernel
theorem wiX10_asNumber_X10 : ∀ w ∈ u_ws RX10 TX10 2, w ∈ wsX10_asNumber := by decide +kernel
theorem wfX10_isNumeric_15 : Cond.fieldLink RX10 15 "FieldScribe$Text" (TX10 1).2.1 (TX10 1).2.2.1 ∈ wsX10_isNumeric := by decide +kernel
theorem wiX10_isNumeric_X10 : ∀ w ∈ u_ws RX10 TX10 2, w ∈ wsX10_isNumeric := by decide +kernel
theorem wfX10_firstDifference_15 : Cond.fieldLink RX10 15 "FieldScribe$Text" (TX10 1).2.1 (TX10 1).2.2.1 ∈ wsX10_firstDifference := by decide +kernel
theorem wiX10_firstDifference_X10 : ∀ w ∈ u_ws RX10 TX10 2, w ∈ wsX10_firstDifference := by decide +kernel
theorem wfX10_firstDifference_9 : Cond.fieldLink RX10 9 "FieldScribe$Text" (TX10 0).2.1 (TX10 0).2.2.1 ∈ wsX10_firstDifference := by decide +kernel
theorem wfX10_hasSignsOf_15 : Cond.fieldLink RX10 15 "FieldScribe$Text" (TX10 1).2.1 (TX10 1).2.2.1 ∈ wsX10_hasSignsOf := by decide +kernel
theorem wiX10_hasSignsOf_X10 : ∀ w ∈ u_ws RX10 TX10 2, w ∈ wsX10_hasSignsOf := by decide +kernel
section TN
variable {l : Launch} {D : va_G} {tys : List (ClassId × FieldType)} {z0 : Nat} {A : Nat → Prop} {cC : ClassId} {f : Nat → Option va_E} {ar : Nat → Option Nat} {ln : Nat → Nat} {g : Nat → Nat → Int32} {t a o b : Nat} {T : Nat → Option (List Int32)} {s0 u0 : List Int32}
set_option maxRecDepth 100000 in
set_option maxHeartbeats 4000000 in
theorem k_asNumber (ht : tys[0]? = some (cC, .char)) (hT : T t = some s0) : ct D tys z0 A (picF D cC A) l yX10_asNumber wsX10_asNumber (rmL 1 22) [.ref t] (f, T) (qI (picF D cC A) A (fun r x => x = (f, T) ∧ r = num s0)) := by
  refine ct_of RX10 (by decide +kernel) rfl rfl (Nat.le_of_ble_eq_true rfl) ?_
  intro p e s m below meth c C hr hm
  refine v_lv (lv' := [(0, _)]) rfl ?_
  refine v_use (fun H hP => FF_le hT hP) (fun hle => ?_)
  obtain ⟨hle, hch⟩ := hle
  have hst := nst_le s0
  have hnl := nlen_le s0
  refine v_aload_n C dX10_asNumber_0 (j := 0) rfl rfl ?_
  refine v_ci (v_runV C (k_numberLength ht hT) (cwV 0 C.1.2.2.2.2 gX10_asNumber_X10_numberLength rfl rfl rfl (by decide +kernel) ⟨Nat.le_of_ble_eq_true rfl, Nat.le_of_ble_eq_true rfl⟩) rfl rfl (FF_txt hT) dX10_asNumber_1 (rest := []) (Nat.le_of_ble_eq_true rfl) rfl ⟨Nat.le_of_ble_eq_true rfl, Nat.le_of_ble_eq_true rfl⟩) (fun r x' hx' => ?_)
  obtain ⟨rfl, rfl⟩ := hx'
  refine v_istore_n C dX10_asNumber_4 rfl (by decide) (lv' := [(1, _), (0, _)]) rfl ?_
  refine v_aload_n C dX10_asNumber_5 (j := 1) rfl rfl ?_
  refine v_iconst C dX10_asNumber_6 (v := 0) (by decide) ?_
  refine v_ci (v_runV C (k_at ht hT 0) (cwV 1 C.1.2.2.2.2 gX10_asNumber_X10_at rfl rfl rfl (by decide +kernel) ⟨Nat.le_of_ble_eq_true rfl, Nat.le_of_ble_eq_true rfl⟩) rfl rfl (FF_txt hT) dX10_asNumber_7 (rest := []) (Nat.le_of_ble_eq_true rfl) rfl ⟨Nat.le_of_ble_eq_true rfl, Nat.le_of_ble_eq_true rfl⟩) (fun r x' hx' => ?_)
  obtain ⟨rfl, rfl⟩ := hx'
  refine v_cut (pcj := 20) (lvj := [(1, .int (nI (nlen s0))), (0, .ref t)]) (stj := []) (fun w => w = nI (nst s0)) (fun w hw => ?_) (fun K => ?_)
  · skip
    subst hw
    refine v_istore_n C dX10_asNumber_20 rfl (by decide) (lv' := [(2, _), (1, _), (0, _)]) rfl ?_
    refine v_iconst C dX10_asNumber_21 (v := 0) (by decide) ?_
    refine v_istore_n C dX10_asNumber_22 rfl (by decide) (lv' := [(3, _), (2, _), (1, _), (0, _)]) rfl ?_
    refine v_iload_n C dX10_asNumber_23 (j := 1) rfl rfl ?_
    refine v_cut (pcj := 32) (lvj := [(3, .int 0), (2, .int (nI (nst s0))), (1, .int (nI (nlen s0))), (0, .ref t)]) (stj := []) (fun w => w = nI (nst s0)) (fun w hw => ?_) (fun K => ?_)
    · skip
      subst hw
      refine v_istore C dX10_asNumber_32 (by decide) (lv' := [(4, _), (3, _), (2, _), (1, _), (0, _)]) rfl ?_
      obtain ⟨V, hV⟩ : ∃ V, V = nval (s0.drop (nst s0)) (nrun (s0.drop (nst s0)) 9) 0 := ⟨_, rfl⟩
      have hE : nval (s0.drop (nst s0)) (nlen s0 - nst s0) 0 = V := by
        rw [hV]
        unfold nlen
        split
        next h0 => rw [h0, Nat.zero_sub]
        next h0 => rw [Nat.add_sub_cancel_left]
      obtain ⟨j, a0, hj, ha0, hjE⟩ : ∃ (j : Nat) (a0 : Int32), j = nst s0 ∧ a0 = 0 ∧ nval (s0.drop j) (nlen s0 - j) a0 = V := ⟨nst s0, 0, rfl, rfl, hE⟩
      have hj2 : j ≤ s0.length + 1 := by omega
      refine v_lv (lv' := [(4, .int (nI j)), (3, .int a0), (2, _), (1, _), (0, _)]) (by rw [hj, ha0]) ?_
      clear hj ha0 hE
      induction hd : (nlen s0 - j) using Nat.strongRecOn generalizing j a0 with | _ d ih =>
        refine v_iload C dX10_asNumber_34 (j := 0) rfl ?_
        refine v_iload_n C dX10_asNumber_36 (j := 3) rfl rfl ?_
        refine v_icmp_ge C 62 dX10_asNumber_37 (by decide) (fun c1 => ?_) (fun c1 => ?_)
        · skip
          have c2 := le_of c1 (by omega) (by omega)
          rw [show nlen s0 - j = 0 by omega, nval_0] at hjE
          refine v_iload_n C dX10_asNumber_62 (j := 2) rfl rfl ?_
          refine v_if_eq C 71 dX10_asNumber_63 (by decide) (fun c3 => ?_) (fun c3 => ?_)
          · skip
            have c4 : ¬ nst s0 = 1 := fun z => by rw [z] at c3; exact absurd c3 (by decide)
            refine v_iload_n C dX10_asNumber_71 (j := 1) rfl rfl ?_
            exact v_ireturn C dX10_asNumber_72 hr (rfl) (Nat.le_of_ble_eq_true rfl) (Nat.le_of_ble_eq_true rfl) (⟨rfl, by unfold num; rw [if_neg c4, ← hV, hjE]⟩)
          · skip
            have c4 : nst s0 = 1 := by
              rcases Nat.eq_zero_or_pos (nst s0) with q | q
              · rw [q] at c3; exact absurd rfl c3
              · omega
            refine v_iload_n C dX10_asNumber_66 (j := 1) rfl rfl ?_
            refine v_ineg C dX10_asNumber_67 ?_
            refine v_goto C 72 dX10_asNumber_68 (by decide) ?_
            exact v_ireturn C dX10_asNumber_72 hr (rfl) (Nat.le_of_ble_eq_true rfl) (Nat.le_of_ble_eq_true rfl) (⟨rfl, by unfold num; rw [if_pos c4, ← hV, hjE]⟩)
        · skip
          have c2 := lt_ofn c1 (by omega) (by omega)
          refine v_open (fun ar ln g hr2 => ?_)
          obtain ⟨a, ha, es⟩ := rep_arr hr2 hT
          have c3 : j < s0.length := by omega
          have c5 : j < ln t := by rw [es, sl_len] at c3; exact c3
          have c6 : ln t ≤ 60 := by rw [es, sl_len] at hle; exact hle
          refine v_iload_n C dX10_asNumber_40 (j := 1) rfl rfl ?_
          refine v_bipush C dX10_asNumber_41 (v := 10) (by decide) ?_
          refine v_imul C dX10_asNumber_43 ?_
          refine v_aload_n C dX10_asNumber_44 (j := 4) rfl rfl ?_
          refine v_get C (T := TX10) (ci := 10) (j := 0) dX10_asNumber_45 wiX10_asNumber_X10 rfl (by decide) wfX10_asNumber_9 (fun _ h => h) (T_sig ha) ?_
          refine v_iload C dX10_asNumber_48 (j := 0) rfl ?_
          refine v_cald C dX10_asNumber_50 0 ht (T_row ha) (vp_in_nI (by omega) (by decide)) ?_
          rw [nI_clamp (by omega), show g t j = s0.getD j 0 by rw [es, sl_getD c5]]
          refine v_bipush C dX10_asNumber_51 (v := 48) (by decide) ?_
          refine v_isub C dX10_asNumber_53 ?_
          refine v_iadd C dX10_asNumber_54 ?_
          refine v_istore_n C dX10_asNumber_55 rfl (by decide) (lv' := [(3, _), (4, _), (2, _), (1, _), (0, _)]) rfl ?_
          refine v_iinc C dX10_asNumber_56 (j := 1) (v := _ + 1) rfl rfl (by decide) (lv' := [(4, _), (3, _), (2, _), (1, _), (0, _)]) rfl ?_
          refine v_goto C 34 dX10_asNumber_59 (by decide) ?_
          refine v_close hr2 ?_
          rw [nI_1]
          refine v_sub [0, 1, 2, 3, 4] rfl ?_
          have hs := nval_step (k := nlen s0 - (j + 1)) (a := a0) c3
          rw [show nlen s0 - (j + 1) + 1 = nlen s0 - j by omega, hjE] at hs
          exact ih (nlen s0 - (j + 1)) (by omega) (j + 1) _ hs.symm (by omega) rfl
    · skip
      refine v_if_eq C 31 dX10_asNumber_24 (by decide) (fun c1 => ?_) (fun c1 => ?_)
      · skip
        refine v_iconst C dX10_asNumber_31 (v := 0) (by decide) ?_
        exact K _ (by have h1 := hst.2; rcases Nat.eq_zero_or_pos (nst s0) with q | q
                      · rw [q]; rfl
                      · have q2 : nst s0 = 1 := by omega
                        rw [q2] at c1; exact absurd c1 (by decide))
      · skip
        refine v_iconst C dX10_asNumber_27 (v := 1) (by decide) ?_
        refine v_goto C 32 dX10_asNumber_28 (by decide) ?_
        exact K _ (by have h1 := hst.2; rcases Nat.eq_zero_or_pos (nst s0) with q | q
                      · rw [q] at c1; exact absurd rfl c1
                      · have q2 : nst s0 = 1 := by omega
                        rw [q2]; rfl)
  · skip
    refine v_bipush C dX10_asNumber_10 (v := 45) (by decide) ?_
    refine v_icmp_ne C 19 dX10_asNumber_12 (by decide) (fun c1 => ?_) (fun c1 => ?_)
    · skip
      refine v_iconst C dX10_asNumber_19 (v := 0) (by decide) ?_
      exact K _ (by have h1 := hst.2; rcases Nat.eq_zero_or_pos (nst s0) with q | q
                    · rw [q]; rfl
                    · exact absurd ((atT_0 hle).mpr (by omega)) c1)
    · skip
      refine v_iconst C dX10_asNumber_15 (v := 1) (by decide) ?_
      refine v_goto C 20 dX10_asNumber_16 (by decide) ?_
      exact K _ (by rw [(atT_0 hle).mp c1]; rfl)
set_option maxRecDepth 100000 in
set_option maxHeartbeats 4000000 in
theorem k_isNumeric (ht : tys[0]? = some (cC, .char)) (hT : T t = some s0) : ct D tys z0 A (picF D cC A) l yX10_isNumeric wsX10_isNumeric (rmL 1 22) [.ref t] (f, T) (qI (picF D cC A) A (fun r x => x = (f, T) ∧ r = bI (isNum s0))) := by
  refine ct_of RX10 (by decide +kernel) rfl rfl (Nat.le_of_ble_eq_true rfl) ?_
  intro p e s m below meth c C hr hm
  refine v_lv (lv' := [(0, _)]) rfl ?_
  refine v_use (fun H hP => FF_le hT hP) (fun hle => ?_)
  obtain ⟨hle, hch⟩ := hle
  have hnl := nlen_le s0
  refine v_aload_n C dX10_isNumeric_0 (j := 0) rfl rfl ?_
  refine v_get C (T := TX10) (ci := 10) (j := 1) dX10_isNumeric_1 wiX10_isNumeric_X10 rfl (by decide) wfX10_isNumeric_15 (fun _ h => h) (FF_len hT) ?_
  refine v_if_le C 22 dX10_isNumeric_4 (by decide) (fun c1 => ?_) (fun c1 => ?_)
  · skip
    have c2 : ¬ 0 < s0.length := fun z => (Int32.not_lt.mpr c1) (nI_lt z (by omega))
    refine v_iconst C dX10_isNumeric_22 (v := 0) (by decide) ?_
    exact v_ireturn C dX10_isNumeric_23 hr (rfl) (Nat.le_of_ble_eq_true rfl) (Nat.le_of_ble_eq_true rfl) (⟨rfl, bI_f (by unfold isNum; rw [decide_eq_false c2]; rfl)⟩)
  · skip
    have c2 : 0 < s0.length := by
      rcases Nat.eq_zero_or_pos s0.length with q | q
      · rw [q] at c1; exact absurd (Int32.le_refl _) c1
      · exact q
    refine v_aload_n C dX10_isNumeric_7 (j := 0) rfl rfl ?_
    refine v_ci (v_runV C (k_numberLength ht hT) (cwV 0 C.1.2.2.2.2 gX10_isNumeric_X10_numberLength rfl rfl rfl (by decide +kernel) ⟨Nat.le_of_ble_eq_true rfl, Nat.le_of_ble_eq_true rfl⟩) rfl rfl (FF_txt hT) dX10_isNumeric_8 (rest := []) (Nat.le_of_ble_eq_true rfl) rfl ⟨Nat.le_of_ble_eq_true rfl, Nat.le_of_ble_eq_true rfl⟩) (fun r x' hx' => ?_)
    obtain ⟨rfl, rfl⟩ := hx'
    refine v_aload_n C dX10_isNumeric_11 (j := 0) rfl rfl ?_
    refine v_get C (T := TX10) (ci := 10) (j := 1) dX10_isNumeric_12 wiX10_isNumeric_X10 rfl (by decide) wfX10_isNumeric_15 (fun _ h => h) (FF_len hT) ?_
    refine v_icmp_ne C 22 dX10_isNumeric_15 (by decide) (fun c3 => ?_) (fun c3 => ?_)
    · skip
      refine v_iconst C dX10_isNumeric_22 (v := 0) (by decide) ?_
      exact v_ireturn C dX10_isNumeric_23 hr (rfl) (Nat.le_of_ble_eq_true rfl) (Nat.le_of_ble_eq_true rfl) (⟨rfl, bI_f (by unfold isNum; rw [decide_eq_true c2, decide_eq_false (fun z => c3 (by rw [z]))]; rfl)⟩)
    · skip
      refine v_iconst C dX10_isNumeric_18 (v := 1) (by decide) ?_
      refine v_goto C 23 dX10_isNumeric_19 (by decide) ?_
      exact v_ireturn C dX10_isNumeric_23 hr (rfl) (Nat.le_of_ble_eq_true rfl) (Nat.le_of_ble_eq_true rfl) (⟨rfl, bI_t (by unfold isNum; rw [decide_eq_true c2, decide_eq_true ((nI_eq (by omega) (by omega)).mp c3)]; rfl)⟩)
set_option maxRecDepth 100000 in
set_option maxHeartbeats 4000000 in
theorem k_isSameAs (ht : tys[0]? = some (cC, .char)) (hT : T t = some s0) (n : Int32) : ct D tys z0 A (picF D cC A) l yX10_isSameAs wsX10_isSameAs (rmL 2 46) [.ref t, .int n] (f, T) (qI (picF D cC A) A (fun r x => x = (f, T) ∧ r = bI (sameN s0 n))) := by
  refine ct_of RX10 (by decide +kernel) rfl rfl (Nat.le_of_ble_eq_true rfl) ?_
  intro p e s m below meth c C hr hm
  refine v_lv (lv' := [(0, _), (1, _)]) rfl ?_
  refine v_aload_n C dX10_isSameAs_0 (j := 0) rfl rfl ?_
  refine v_ci (v_runV C (k_isNumeric ht hT) (cwV 0 C.1.2.2.2.2 gX10_isSameAs_X10_isNumeric rfl rfl rfl (by decide +kernel) ⟨Nat.le_of_ble_eq_true rfl, Nat.le_of_ble_eq_true rfl⟩) rfl rfl (FF_txt hT) dX10_isSameAs_1 (rest := []) (Nat.le_of_ble_eq_true rfl) rfl ⟨Nat.le_of_ble_eq_true rfl, Nat.le_of_ble_eq_true rfl⟩) (fun r x' hx' => ?_)
  obtain ⟨rfl, rfl⟩ := hx'
  refine v_if_eq C 19 dX10_isSameAs_4 (by decide) (fun c1 => ?_) (fun c1 => ?_)
  · skip
    refine v_iconst C dX10_isSameAs_19 (v := 0) (by decide) ?_
    exact v_ireturn C dX10_isSameAs_20 hr (rfl) (Nat.le_of_ble_eq_true rfl) (Nat.le_of_ble_eq_true rfl) (⟨rfl, bI_f (by unfold sameN; rw [bI_0 c1]; rfl)⟩)
  · skip
    refine v_aload_n C dX10_isSameAs_7 (j := 0) rfl rfl ?_
    refine v_ci (v_runV C (k_asNumber ht hT) (cwV 0 C.1.2.2.2.2 gX10_isSameAs_X10_asNumber rfl rfl rfl (by decide +kernel) ⟨Nat.le_of_ble_eq_true rfl, Nat.le_of_ble_eq_true rfl⟩) rfl rfl (FF_txt hT) dX10_isSameAs_8 (rest := []) (Nat.le_of_ble_eq_true rfl) rfl ⟨Nat.le_of_ble_eq_true rfl, Nat.le_of_ble_eq_true rfl⟩) (fun r x' hx' => ?_)
    obtain ⟨rfl, rfl⟩ := hx'
    refine v_iload_n C dX10_isSameAs_11 (j := 1) rfl rfl ?_
    refine v_icmp_ne C 19 dX10_isSameAs_12 (by decide) (fun c3 => ?_) (fun c3 => ?_)
    · skip
      refine v_iconst C dX10_isSameAs_19 (v := 0) (by decide) ?_
      exact v_ireturn C dX10_isSameAs_20 hr (rfl) (Nat.le_of_ble_eq_true rfl) (Nat.le_of_ble_eq_true rfl) (⟨rfl, bI_f (by unfold sameN; rw [bI_1 c1, decide_eq_false c3]; rfl)⟩)
    · skip
      refine v_iconst C dX10_isSameAs_15 (v := 1) (by decide) ?_
      refine v_goto C 20 dX10_isSameAs_16 (by decide) ?_
      exact v_ireturn C dX10_isSameAs_20 hr (rfl) (Nat.le_of_ble_eq_true rfl) (Nat.le_of_ble_eq_true rfl) (⟨rfl, bI_t (by unfold sameN; rw [bI_1 c1, decide_eq_true c3]; rfl)⟩)
theorem fdif_step {s u : List Int32} {j : Nat} (h : j < s.length) (h2 : j < u.length) : fdif (s.drop j) (u.drop j) = if s.getD j 0 = u.getD j 0 then fdif (s.drop (j + 1)) (u.drop (j + 1)) + 1 else 0 := by rw [drop_cons h, drop_cons h2]; rfl
theorem fdif_end {s u : List Int32} {j : Nat} (h : s.length ≤ j ∨ u.length ≤ j) : fdif (s.drop j) (u.drop j) = 0 := by
  rcases h with h | h
  · rw [List.drop_eq_nil_of_le h]; cases u.drop j <;> rfl
  · rw [List.drop_eq_nil_of_le h]; cases s.drop j <;> rfl
theorem fdif_le : ∀ (s u : List Int32), fdif s u ≤ s.length ∧ fdif s u ≤ u.length
  | [], u => by cases u <;> simp [fdif]
  | a :: s, [] => by simp [fdif]
  | a :: s, b :: u => by
    have h := fdif_le s u
    unfold fdif
    split
    · simp only [List.length_cons]; omega
    · exact ⟨Nat.zero_le _, Nat.zero_le _⟩
set_option maxRecDepth 100000 in
set_option maxHeartbeats 4000000 in
theorem k_firstDifference (ht : tys[0]? = some (cC, .char)) (hT : T t = some s0) (hO : T o = some u0) : ct D tys z0 A (picF D cC A) l yX10_firstDifference wsX10_firstDifference rm0 [.ref t, .ref o] (f, T) (qI (picF D cC A) A (fun r x => x = (f, T) ∧ r = nI (fdif s0 u0))) := by
  refine ct_of RX10 (by decide +kernel) rfl rfl (Nat.le_of_ble_eq_true rfl) ?_
  intro p e s m below meth c C hr hm
  refine v_lv (lv' := [(0, _), (1, _)]) rfl ?_
  refine v_use (fun H hP => FF_le hT hP) (fun hle => ?_)
  obtain ⟨hle, hch⟩ := hle
  refine v_use (fun H hP => FF_le hO hP) (fun hle2 => ?_)
  obtain ⟨hle2, hch2⟩ := hle2
  refine v_iconst C dX10_firstDifference_0 (v := 0) (by decide) ?_
  refine v_istore_n C dX10_firstDifference_1 rfl (by decide) (lv' := [(2, _), (0, _), (1, _)]) rfl ?_
  obtain ⟨j, hj, hj2, hjE⟩ : ∃ j : Nat, j = 0 ∧ j ≤ s0.length ∧ j + fdif (s0.drop j) (u0.drop j) = fdif s0 u0 := ⟨0, rfl, Nat.zero_le _, by simp⟩
  refine v_lv (lv' := [(2, .int (nI j)), (0, _), (1, _)]) (by rw [hj]; rfl) ?_
  clear hj
  induction hd : (s0.length - j) using Nat.strongRecOn generalizing j with | _ d ih =>
    refine v_cut0 (pcj := 39) (lvj := [(2, .int (nI j)), (0, .ref t), (1, .ref o)]) (stj := []) ( fdif (s0.drop j) (u0.drop j) = 0) (fun hw => ?_) (fun K => ?_)
    · skip
      refine v_iload_n C dX10_firstDifference_39 (j := 0) rfl rfl ?_
      exact v_ireturn C dX10_firstDifference_40 hr (rfl) (Nat.le_of_ble_eq_true rfl) (Nat.le_of_ble_eq_true rfl) (⟨rfl, by rw [← hjE, hw, Nat.add_zero]⟩)
    · skip
      refine v_iload_n C dX10_firstDifference_2 (j := 0) rfl rfl ?_
      refine v_aload_n C dX10_firstDifference_3 (j := 1) rfl rfl ?_
      refine v_get C (T := TX10) (ci := 10) (j := 1) dX10_firstDifference_4 wiX10_firstDifference_X10 rfl (by decide) wfX10_firstDifference_15 (fun _ h => h) (FF_len hT) ?_
      refine v_icmp_ge C 39 dX10_firstDifference_7 (by decide) (fun c1 => ?_) (fun c1 => ?_)
      · skip
        exact K (fdif_end (Or.inl (le_of c1 (by omega) (by omega))))
      · skip
        have c2 := lt_ofn c1 (by omega) (by omega)
        refine v_iload_n C dX10_firstDifference_10 (j := 0) rfl rfl ?_
        refine v_aload_n C dX10_firstDifference_11 (j := 2) rfl rfl ?_
        refine v_get C (T := TX10) (ci := 10) (j := 1) dX10_firstDifference_12 wiX10_firstDifference_X10 rfl (by decide) wfX10_firstDifference_15 (fun _ h => h) (FF_len hO) ?_
        refine v_icmp_ge C 39 dX10_firstDifference_15 (by decide) (fun c3 => ?_) (fun c3 => ?_)
        · skip
          exact K (fdif_end (Or.inr (le_of c3 (by omega) (by omega))))
        · skip
          have c4 := lt_ofn c3 (by omega) (by omega)
          refine v_open (fun ar ln g hr2 => ?_)
          obtain ⟨a, ha, es⟩ := rep_arr hr2 hT
          obtain ⟨b, hb, es2⟩ := rep_arr hr2 hO
          have c5 : j < ln t := by rw [es, sl_len] at c2; exact c2
          have c6 : ln t ≤ 60 := by rw [es, sl_len] at hle; exact hle
          have c7 : j < ln o := by rw [es2, sl_len] at c4; exact c4
          have c8 : ln o ≤ 60 := by rw [es2, sl_len] at hle2; exact hle2
          refine v_aload_n C dX10_firstDifference_18 (j := 1) rfl rfl ?_
          refine v_get C (T := TX10) (ci := 10) (j := 0) dX10_firstDifference_19 wiX10_firstDifference_X10 rfl (by decide) wfX10_firstDifference_9 (fun _ h => h) (T_sig ha) ?_
          refine v_iload_n C dX10_firstDifference_22 (j := 0) rfl rfl ?_
          refine v_cald C dX10_firstDifference_23 0 ht (T_row ha) (vp_in_nI (by omega) (by decide)) ?_
          rw [nI_clamp (by omega), show g t j = s0.getD j 0 by rw [es, sl_getD c5]]
          refine v_aload_n C dX10_firstDifference_24 (j := 2) rfl rfl ?_
          refine v_get C (T := TX10) (ci := 10) (j := 0) dX10_firstDifference_25 wiX10_firstDifference_X10 rfl (by decide) wfX10_firstDifference_9 (fun _ h => h) (T_sig hb) ?_
          refine v_iload_n C dX10_firstDifference_28 (j := 0) rfl rfl ?_
          refine v_cald C dX10_firstDifference_29 0 ht (T_row hb) (vp_in_nI (by omega) (by decide)) ?_
          rw [nI_clamp (by omega), show g o j = u0.getD j 0 by rw [es2, sl_getD c7]]
          refine v_icmp_ne C 39 dX10_firstDifference_30 (by decide) (fun c9 => ?_) (fun c9 => ?_)
          · skip
            exact v_close hr2 (K (by rw [fdif_step c2 c4, if_neg c9]))
          · skip
            refine v_iinc C dX10_firstDifference_33 (j := 0) (v := _ + 1) rfl rfl (by decide) (lv' := [(2, _), (0, _), (1, _)]) rfl ?_
            refine v_goto C 2 dX10_firstDifference_36 (by decide) ?_
            refine v_close hr2 ?_
            rw [nI_1]
            have hs := fdif_step c2 c4
            rw [if_pos c9] at hs
            exact ih (s0.length - (j + 1)) (by omega) (j + 1) (by omega) (by omega) rfl
theorem fdif_self : ∀ s : List Int32, fdif s s = s.length
  | [] => rfl
  | a :: s => by unfold fdif; rw [if_pos rfl, fdif_self s]; rfl
theorem fdif_all : ∀ {s u : List Int32}, s.length = u.length → fdif s u = s.length → s = u
  | [], [], _, _ => rfl
  | [], _ :: _, h, _ => by cases h
  | _ :: _, [], h, _ => by cases h
  | a :: s, b :: u, h, h2 => by
    unfold fdif at h2
    split at h2
    next e =>
      rw [e, fdif_all (s := s) (u := u) (by simpa using h) (by simpa using h2)]
    next => cases h2
set_option maxRecDepth 100000 in
set_option maxHeartbeats 4000000 in
theorem k_hasSignsOf (ht : tys[0]? = some (cC, .char)) (hT : T t = some s0) (hO : T o = some u0) : ct D tys z0 A (picF D cC A) l yX10_hasSignsOf wsX10_hasSignsOf (rmL 1 22) [.ref t, .ref o] (f, T) (qI (picF D cC A) A (fun r x => x = (f, T) ∧ r = bI (decide (s0 = u0)))) := by
  refine ct_of RX10 (by decide +kernel) rfl rfl (Nat.le_of_ble_eq_true rfl) ?_
  intro p e s m below meth c C hr hm
  refine v_lv (lv' := [(0, _), (1, _)]) rfl ?_
  refine v_use (fun H hP => FF_le hT hP) (fun hle => ?_)
  obtain ⟨hle, hch⟩ := hle
  refine v_use (fun H hP => FF_le hO hP) (fun hle2 => ?_)
  obtain ⟨hle2, hch2⟩ := hle2
  have hfd := fdif_le s0 u0
  refine v_aload_n C dX10_hasSignsOf_0 (j := 0) rfl rfl ?_
  refine v_get C (T := TX10) (ci := 10) (j := 1) dX10_hasSignsOf_1 wiX10_hasSignsOf_X10 rfl (by decide) wfX10_hasSignsOf_15 (fun _ h => h) (FF_len hT) ?_
  refine v_aload_n C dX10_hasSignsOf_4 (j := 1) rfl rfl ?_
  refine v_get C (T := TX10) (ci := 10) (j := 1) dX10_hasSignsOf_5 wiX10_hasSignsOf_X10 rfl (by decide) wfX10_hasSignsOf_15 (fun _ h => h) (FF_len hO) ?_
  refine v_icmp_ne C 27 dX10_hasSignsOf_8 (by decide) (fun c1 => ?_) (fun c1 => ?_)
  · skip
    refine v_iconst C dX10_hasSignsOf_27 (v := 0) (by decide) ?_
    exact v_ireturn C dX10_hasSignsOf_28 hr (rfl) (Nat.le_of_ble_eq_true rfl) (Nat.le_of_ble_eq_true rfl) (⟨rfl, bI_f (decide_eq_false (fun z => c1 (by rw [z])))⟩)
  · skip
    have c2 := (nI_eq (by omega) (by omega)).mp c1
    refine v_aload_n C dX10_hasSignsOf_11 (j := 0) rfl rfl ?_
    refine v_aload_n C dX10_hasSignsOf_12 (j := 1) rfl rfl ?_
    refine v_ci (v_runV C (k_firstDifference ht hT hO) (cwV 1 C.1.2.2.2.2 gX10_hasSignsOf_X10_firstDifference rfl rfl rfl (by decide +kernel) ⟨Nat.le_of_ble_eq_true rfl, Nat.le_of_ble_eq_true rfl⟩) rfl rfl (FF_txt hT) dX10_hasSignsOf_13 (rest := []) (Nat.le_of_ble_eq_true rfl) rfl ⟨Nat.le_of_ble_eq_true rfl, Nat.le_of_ble_eq_true rfl⟩) (fun r x' hx' => ?_)
    obtain ⟨rfl, rfl⟩ := hx'
    refine v_aload_n C dX10_hasSignsOf_16 (j := 0) rfl rfl ?_
    refine v_get C (T := TX10) (ci := 10) (j := 1) dX10_hasSignsOf_17 wiX10_hasSignsOf_X10 rfl (by decide) wfX10_hasSignsOf_15 (fun _ h => h) (FF_len hT) ?_
    refine v_icmp_ne C 27 dX10_hasSignsOf_20 (by decide) (fun c3 => ?_) (fun c3 => ?_)
    · skip
      refine v_iconst C dX10_hasSignsOf_27 (v := 0) (by decide) ?_
      exact v_ireturn C dX10_hasSignsOf_28 hr (rfl) (Nat.le_of_ble_eq_true rfl) (Nat.le_of_ble_eq_true rfl) (⟨rfl, bI_f (decide_eq_false (fun z => c3 (by rw [← z, fdif_self])))⟩)
    · skip
      have c4 := (nI_eq (by omega) (by omega)).mp c3
      refine v_iconst C dX10_hasSignsOf_23 (v := 1) (by decide) ?_
      refine v_goto C 28 dX10_hasSignsOf_24 (by decide) ?_
      exact v_ireturn C dX10_hasSignsOf_28 hr (rfl) (Nat.le_of_ble_eq_true rfl) (Nat.le_of_ble_eq_true rfl) (⟨rfl, bI_t (decide_eq_true (fdif_all c2 c4))⟩)
end TN
