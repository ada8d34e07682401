/-! ===== the law: numbers in texts ===== -/

theorem mul10 (a c : Int32) : 10 * a + c - 48 = a * 10 + (c - 48) := by
  rw [Int32.mul_comm, Int32.sub_eq_add_neg, Int32.sub_eq_add_neg, Int32.add_assoc]
theorem nrun_all : ∀ (s : List Int32) (k : Nat), nrun s k = s.length ↔ s.length ≤ k ∧ s.all isDig = true := by
  intro s
  induction s with
  | nil => intro k; cases k <;> simp [nrun]
  | cons c t ih =>
    intro k
    cases k with
    | zero => simp [nrun]
    | succ k =>
      show (if isDig c = true then nrun t k + 1 else 0) = t.length + 1 ↔ t.length + 1 ≤ k + 1 ∧ (isDig c && t.all isDig) = true
      by_cases h : isDig c = true
      · rw [if_pos h, h, Bool.true_and]
        have := ih k
        constructor
        · intro z
          have q := this.mp (by omega)
          exact ⟨by omega, q.2⟩
        · intro z
          have q := this.mpr ⟨by omega, z.2⟩
          omega
      · rw [if_neg h]
        constructor
        · intro z; omega
        · intro z
          rw [Bool.and_eq_true] at z
          exact absurd z.2.1 h
theorem isNum_all (t : List Int32) : isNum t = (decide (nst t < t.length ∧ t.length < nst t + 10) && (t.drop (nst t)).all isDig) := by
  have hst := nst_le t
  have h1 := nrun_all (t.drop (nst t)) 9
  rw [List.length_drop] at h1
  unfold isNum nlen
  rw [Bool.eq_iff_iff]
  simp only [Bool.and_eq_true, decide_eq_true_eq]
  constructor
  · rintro ⟨q1, q2⟩
    split at q2
    · omega
    · have h2 := h1.mp (by omega)
      exact ⟨⟨by omega, by omega⟩, h2.2⟩
  · rintro ⟨⟨q1, q2⟩, q3⟩
    have h2 := h1.mpr ⟨by omega, q3⟩
    rw [h2, if_neg (by omega)]
    exact ⟨by omega, by omega⟩
theorem all_drop {t : List Int32} {j : Nat} (h : j < t.length) : (t.drop j).all isDig = (isDig (t.getD j 0) && (t.drop (j + 1)).all isDig) := by rw [dropc (0 : Int32) h]; rfl
section NN
variable {l : Launch} {D : va_G} {tys : List (ClassId × FieldType)} {z0 : Nat} {A : Nat → Prop} {σ0 : Type} {pic0 : σ0 → Heap → Prop} {cI cJ : ClassId} {ad al : Nat → Nat} {y0 : σ0} {X : Nat → Nat → Int32} {Y : Nat → Nat → Int64} {sep : Int32} {r u t : List Int32} {j b e9 : Nat}
set_option maxRecDepth 100000 in
set_option maxHeartbeats 8000000 in
theorem n_number (ht1 : tys[1]? = some (cI, .int)) (hj : j < 4) (hu : nT j X u) (hs : str u b e9 t) : ct D tys z0 A (picN pic0 cI cJ ad al A) l yL_number wsL_number rm0 [.ref (ad j), .int (nI b), .int (nI e9)] (y0, X, Y) (qI (picN pic0 cI cJ ad al A) A (fun q x => x = (y0, X, Y) ∧ q = num t)) := by
  have hl := str_len hs
  have h60 := hu.2.1
  have hbe := hs.1
  have her := hs.2.1
  have hst := nst_le t
  have hat : ∀ i, i < t.length → X j (b + i) = t.getD i 0 := fun i hi => by rw [hu.2.2 _ (by omega), str_get hs hi]
  refine ct_of RL (by decide +kernel) rfl rfl (Nat.le_of_ble_eq_true rfl) ?_
  intro p e s m below meth c C hr hm
  refine v_lv (lv' := [(0, _), (1, _), (2, _)]) rfl ?_
  refine v_cut (pcj := 20) (lvj := [(0, .ref (ad j)), (1, .int (nI b)), (2, .int (nI e9))]) (stj := []) (fun w => w = nI (b + nst t)) (fun w hw => ?_) (fun K => ?_)
  · skip
    subst hw
    refine v_istore_n C dL_number_20 rfl (by decide) (lv' := [(3, _), (0, _), (1, _), (2, _)]) rfl ?_
    refine v_iconst C dL_number_21 (v := 0) (by decide) ?_
    refine v_istore C dL_number_22 (by decide) (lv' := [(4, _), (3, _), (0, _), (1, _), (2, _)]) rfl ?_
    refine v_iload_n C dL_number_24 (j := 1) rfl rfl ?_
    refine v_istore C dL_number_25 (by decide) (lv' := [(5, _), (4, _), (3, _), (0, _), (1, _), (2, _)]) rfl ?_
    obtain ⟨i, s9, hi, hs9, hrun, hv9, hi9, hil⟩ : ∃ (i : Nat) (s9 : Int32), i = 0 ∧ s9 = 0 ∧ nrun (t.drop (nst t)) 9 = i + nrun (t.drop (nst t + i)) (9 - i) ∧ nval (t.drop (nst t)) (nrun (t.drop (nst t)) 9) 0 = nval (t.drop (nst t + i)) (nrun (t.drop (nst t)) 9 - i) s9 ∧ i ≤ 9 ∧ nst t + i ≤ t.length := ⟨0, 0, rfl, rfl, by simp, rfl, by decide, by omega⟩
    refine v_lv (lv' := [(5, .int (nI (b + nst t + i))), (4, .int s9), (3, _), (0, _), (1, _), (2, _)]) (by rw [hi, hs9]; rfl) ?_
    clear hi hs9
    induction hd : (9 - i) using Nat.strongRecOn generalizing i s9 with | _ d ih =>
      refine v_cut0 (pcj := 81) (lvj := [(4, .int s9), (3, .int (nI (b + nst t))), (1, .int (nI b))]) (stj := []) (nrun (t.drop (nst t + i)) (9 - i) = 0) (fun hw => ?_) (fun K => ?_)
      · skip
        rw [hw, Nat.add_zero] at hrun
        rw [hrun, Nat.sub_self, nval_0] at hv9
        refine v_iload_n C dL_number_81 (j := 1) rfl rfl ?_
        refine v_iload_n C dL_number_82 (j := 2) rfl rfl ?_
        refine v_icmp_le C 92 dL_number_83 (by decide) (fun c1 => ?_) (fun c1 => ?_)
        · skip
          have c2 : nst t ≠ 1 := fun z => by have := le_of c1 (by omega) (by omega); omega
          refine v_iload C dL_number_92 (j := 0) rfl ?_
          exact v_ireturn C dL_number_94 hr (rfl) (Nat.le_of_ble_eq_true rfl) (Nat.le_of_ble_eq_true rfl) (⟨rfl, by unfold num; rw [if_neg c2, hrun, hv9]⟩)
        · skip
          have c2 : nst t = 1 := by have := lt_ofn c1 (by omega) (by omega); omega
          refine v_iload C dL_number_86 (j := 0) rfl ?_
          refine v_ineg C dL_number_88 ?_
          refine v_goto C 94 dL_number_89 (by decide) ?_
          exact v_ireturn C dL_number_94 hr (rfl) (Nat.le_of_ble_eq_true rfl) (Nat.le_of_ble_eq_true rfl) (⟨rfl, by unfold num; rw [if_pos c2, hrun, hv9]⟩)
      · skip
        refine v_iload C dL_number_27 (j := 0) rfl ?_
        refine v_iload_n C dL_number_29 (j := 5) rfl rfl ?_
        refine v_icmp_ge C 81 dL_number_30 (by decide) (fun c1 => ?_) (fun c1 => ?_)
        · skip
          refine v_sub [1, 2, 4] rfl ?_
          exact K (nrun_end (by have := le_of c1 (by omega) (by omega); omega))
        · skip
          have c2 : nst t + i < t.length := by have := lt_ofn c1 (by omega) (by omega); omega
          refine v_iload C dL_number_33 (j := 0) rfl ?_
          refine v_iload_n C dL_number_35 (j := 2) rfl rfl ?_
          refine v_bipush C dL_number_36 (v := 9) (by decide) ?_
          refine v_iadd C dL_number_38 ?_
          refine v_int (b := nI (b + nst t + 9)) (nI_add (b + nst t) 9) ?_
          refine v_icmp_ge C 81 dL_number_39 (by decide) (fun c3 => ?_) (fun c3 => ?_)
          · skip
            have c4 := le_of c3 (by omega) (by omega)
            refine v_sub [1, 2, 4] rfl ?_
            exact K (by rw [show 9 - i = 0 by omega]; exact nrun_0 _)
          · skip
            have c4 : i < 9 := by have := lt_ofn c3 (by omega) (by omega); omega
            have hstp := nrun_step (s := t) (j := nst t + i) (k := 8 - i) c2
            rw [show 8 - i + 1 = 9 - i by omega] at hstp
            refine v_aload_n C dL_number_42 (j := 3) rfl rfl ?_
            refine v_iload C dL_number_43 (j := 0) rfl ?_
            refine v_iald C dL_number_45 1 ht1 (N_t hj) (vp_in_nI (by show b + nst t + i < 61; omega) (by decide)) ?_
            refine v_int (b := t.getD (nst t + i) 0) (by rw [nI_clamp (by omega), Nat.add_assoc]; exact hat _ c2) ?_
            refine v_bipush C dL_number_46 (v := 48) (by decide) ?_
            refine v_icmp_lt C 81 dL_number_48 (by decide) (fun c5 => ?_) (fun c5 => ?_)
            · skip
              refine v_sub [1, 2, 4] rfl ?_
              exact K (by rw [hstp, if_neg (by unfold isDig; rw [decide_eq_false (Int32.not_le.mpr c5), Bool.false_and]; decide)])
            · skip
              refine v_aload_n C dL_number_51 (j := 3) rfl rfl ?_
              refine v_iload C dL_number_52 (j := 0) rfl ?_
              refine v_iald C dL_number_54 1 ht1 (N_t hj) (vp_in_nI (by show b + nst t + i < 61; omega) (by decide)) ?_
              refine v_int (b := t.getD (nst t + i) 0) (by rw [nI_clamp (by omega), Nat.add_assoc]; exact hat _ c2) ?_
              refine v_bipush C dL_number_55 (v := 57) (by decide) ?_
              refine v_icmp_gt C 81 dL_number_57 (by decide) (fun c6 => ?_) (fun c6 => ?_)
              · skip
                refine v_sub [1, 2, 4] rfl ?_
                exact K (by rw [hstp, if_neg (by unfold isDig; rw [decide_eq_false (p := t.getD (nst t + i) 0 ≤ 57) (Int32.not_le.mpr c6), Bool.and_false]; decide)])
              · skip
                rw [if_pos (by unfold isDig; rw [decide_eq_true (Int32.not_lt.mp c5), decide_eq_true (Int32.not_lt.mp c6)]; rfl)] at hstp
                refine v_bipush C dL_number_60 (v := 10) (by decide) ?_
                refine v_iload C dL_number_62 (j := 1) rfl ?_
                refine v_imul C dL_number_64 ?_
                refine v_aload_n C dL_number_65 (j := 3) rfl rfl ?_
                refine v_iload C dL_number_66 (j := 0) rfl ?_
                refine v_iald C dL_number_68 1 ht1 (N_t hj) (vp_in_nI (by show b + nst t + i < 61; omega) (by decide)) ?_
                refine v_int (b := t.getD (nst t + i) 0) (by rw [nI_clamp (by omega), Nat.add_assoc]; exact hat _ c2) ?_
                refine v_iadd C dL_number_69 ?_
                refine v_bipush C dL_number_70 (v := 48) (by decide) ?_
                refine v_isub C dL_number_72 ?_
                rw [mul10]
                refine v_istore C dL_number_73 (by decide) (lv' := [(4, _), (5, _), (3, _), (0, _), (1, _), (2, _)]) rfl ?_
                refine v_iinc C dL_number_75 (j := 1) (v := _ + 1) rfl rfl (by decide) (lv' := [(5, _), (4, _), (3, _), (0, _), (1, _), (2, _)]) rfl ?_
                refine v_goto C 27 dL_number_78 (by decide) ?_
                have hvs := nval_step (s := t) (j := nst t + i) (k := nrun (t.drop (nst t)) 9 - (i + 1)) (a := s9) c2
                have hge : i + 1 ≤ nrun (t.drop (nst t)) 9 := by rw [hrun, hstp]; omega
                rw [show nrun (t.drop (nst t)) 9 - (i + 1) + 1 = nrun (t.drop (nst t)) 9 - i by omega] at hvs
                refine v_lv (lv' := [(5, .int (nI (b + nst t + (i + 1)))), (4, .int (s9 * 10 + (t.getD (nst t + i) 0 - 48))), (3, _), (0, _), (1, _), (2, _)]) (by rw [nI_1]; rfl) ?_
                exact ih (9 - (i + 1)) (by omega) (i + 1) _ (by rw [hrun, hstp, show 9 - (i + 1) = 8 - i by omega, Nat.add_assoc (nst t) i 1]; omega) (by rw [hv9, hvs, Nat.add_assoc (nst t) i 1]) (by omega) (by omega) rfl
  · skip
    refine v_iload_n C dL_number_0 (j := 1) rfl rfl ?_
    refine v_iload_n C dL_number_1 (j := 2) rfl rfl ?_
    refine v_icmp_ge C 19 dL_number_2 (by decide) (fun c1 => ?_) (fun c1 => ?_)
    · skip
      have c2 := le_of c1 (by omega) (by omega)
      refine v_iload_n C dL_number_19 (j := 1) rfl rfl ?_
      exact K _ (by rw [nst_nil (by omega)]; rfl)
    · skip
      have c2 := lt_ofn c1 (by omega) (by omega)
      refine v_aload_n C dL_number_5 (j := 0) rfl rfl ?_
      refine v_iload_n C dL_number_6 (j := 1) rfl rfl ?_
      refine v_iald C dL_number_7 1 ht1 (N_t hj) (vp_in_nI (by show b < 61; omega) (by decide)) ?_
      refine v_int (b := t.getD 0 0) (by rw [nI_clamp (by omega)]; exact hat 0 (by omega)) ?_
      refine v_bipush C dL_number_8 (v := 45) (by decide) ?_
      refine v_icmp_ne C 19 dL_number_10 (by decide) (fun c3 => ?_) (fun c3 => ?_)
      · skip
        refine v_iload_n C dL_number_19 (j := 1) rfl rfl ?_
        exact K _ (by rw [nst_at (by omega), if_neg c3]; rfl)
      · skip
        refine v_iload_n C dL_number_13 (j := 1) rfl rfl ?_
        refine v_iconst C dL_number_14 (v := 1) (by decide) ?_
        refine v_iadd C dL_number_15 ?_
        refine v_goto C 20 dL_number_16 (by decide) ?_
        exact K _ (by rw [nst_at (by omega), if_pos c3, nI_1])
set_option maxRecDepth 100000 in
set_option maxHeartbeats 8000000 in
theorem n_isNumeric (ht1 : tys[1]? = some (cI, .int)) (hj : j < 4) (hu : nT j X u) (hs : str u b e9 t) : ct D tys z0 A (picN pic0 cI cJ ad al A) l yL_isNumeric wsL_isNumeric rm0 [.ref (ad j), .int (nI b), .int (nI e9)] (y0, X, Y) (qI (picN pic0 cI cJ ad al A) A (fun q x => x = (y0, X, Y) ∧ q = bI (isNum t))) := by
  have hl := str_len hs
  have h60 := hu.2.1
  have hbe := hs.1
  have her := hs.2.1
  have hst := nst_le t
  have hat : ∀ i, i < t.length → X j (b + i) = t.getD i 0 := fun i hi => by rw [hu.2.2 _ (by omega), str_get hs hi]
  refine ct_of RL (by decide +kernel) rfl rfl (Nat.le_of_ble_eq_true rfl) ?_
  intro p e s m below meth c C hr hm
  refine v_lv (lv' := [(0, _), (1, _), (2, _)]) rfl ?_
  refine v_cut (pcj := 20) (lvj := [(0, .ref (ad j)), (1, .int (nI b)), (2, .int (nI e9))]) (stj := []) (fun w => w = nI (b + nst t)) (fun w hw => ?_) (fun K => ?_)
  · skip
    subst hw
    refine v_istore_n C dL_isNumeric_20 rfl (by decide) (lv' := [(3, _), (0, _), (1, _), (2, _)]) rfl ?_
    refine v_cut (pcj := 39) (lvj := [(3, .int (nI (b + nst t))), (0, .ref (ad j)), (1, .int (nI b)), (2, .int (nI e9))]) (stj := []) (fun w => w = bI (decide (nst t < t.length ∧ t.length < nst t + 10))) (fun w hw => ?_) (fun K => ?_)
    · skip
      subst hw
      refine v_istore C dL_isNumeric_39 (by decide) (lv' := [(4, _), (3, _), (0, _), (1, _), (2, _)]) rfl ?_
      refine v_iload_n C dL_isNumeric_41 (j := 1) rfl rfl ?_
      refine v_istore C dL_isNumeric_42 (by decide) (lv' := [(5, _), (4, _), (3, _), (0, _), (1, _), (2, _)]) rfl ?_
      obtain ⟨i, q9, hi, hq9, hall, hil⟩ : ∃ (i : Nat) (q9 : Bool), i = 0 ∧ decide (nst t < t.length ∧ t.length < nst t + 10) = q9 ∧ isNum t = (q9 && (t.drop (nst t + i)).all isDig) ∧ nst t + i ≤ t.length := ⟨0, _, rfl, rfl, isNum_all t, by omega⟩
      refine v_lv (lv' := [(5, .int (nI (b + nst t + i))), (4, .int (bI q9)), (3, _), (0, _), (1, _), (2, _)]) (by rw [hi, hq9]; rfl) ?_
      clear hi hq9
      induction hd : (t.length - i) using Nat.strongRecOn generalizing i q9 with | _ d ih =>
        refine v_iload C dL_isNumeric_44 (j := 0) rfl ?_
        refine v_iload_n C dL_isNumeric_46 (j := 5) rfl rfl ?_
        refine v_icmp_ge C 86 dL_isNumeric_47 (by decide) (fun c1 => ?_) (fun c1 => ?_)
        · skip
          have c2 := le_of c1 (by omega) (by omega)
          refine v_iload C dL_isNumeric_86 (j := 1) rfl ?_
          exact v_ireturn C dL_isNumeric_88 hr (bI_nar _) (Nat.le_of_ble_eq_true rfl) (Nat.le_of_ble_eq_true rfl) (⟨rfl, by rw [hall, show (t.drop (nst t + i)) = [] from List.drop_eq_nil_of_le (by omega)]; simp⟩)
        · skip
          have c2 : nst t + i < t.length := by have := lt_ofn c1 (by omega) (by omega); omega
          refine v_iload C dL_isNumeric_50 (j := 1) rfl ?_
          refine v_if_eq C 86 dL_isNumeric_52 (by decide) (fun c3 => ?_) (fun c3 => ?_)
          · skip
            refine v_iload C dL_isNumeric_86 (j := 1) rfl ?_
            exact v_ireturn C dL_isNumeric_88 hr (bI_nar _) (Nat.le_of_ble_eq_true rfl) (Nat.le_of_ble_eq_true rfl) (⟨rfl, by rw [hall, bI_0 c3]; rfl⟩)
          · skip
            have c4 := bI_1 c3
            refine v_cut (pcj := 78) (lvj := [(5, .int (nI (b + nst t + i))), (4, .int (bI q9)), (3, .int (nI (b + nst t))), (0, .ref (ad j)), (1, .int (nI b)), (2, .int (nI e9))]) (stj := []) (fun w => w = bI (isDig (t.getD (nst t + i) 0))) (fun w hw => ?_) (fun K => ?_)
            · skip
              subst hw
              refine v_istore C dL_isNumeric_78 (by decide) (lv' := [(4, _), (5, _), (3, _), (0, _), (1, _), (2, _)]) rfl ?_
              refine v_iinc C dL_isNumeric_80 (j := 1) (v := _ + 1) rfl rfl (by decide) (lv' := [(5, _), (4, _), (3, _), (0, _), (1, _), (2, _)]) rfl ?_
              refine v_goto C 44 dL_isNumeric_83 (by decide) ?_
              refine v_lv (lv' := [(5, .int (nI (b + nst t + (i + 1)))), (4, .int (bI (isDig (t.getD (nst t + i) 0)))), (3, _), (0, _), (1, _), (2, _)]) (by rw [nI_1]; rfl) ?_
              exact ih (t.length - (i + 1)) (by omega) (i + 1) _ (by rw [hall, c4, Bool.true_and, all_drop c2]; rfl) (by omega) rfl
            · skip
              refine v_aload_n C dL_isNumeric_55 (j := 3) rfl rfl ?_
              refine v_iload C dL_isNumeric_56 (j := 0) rfl ?_
              refine v_iald C dL_isNumeric_58 1 ht1 (N_t hj) (vp_in_nI (by show b + nst t + i < 61; omega) (by decide)) ?_
              refine v_int (b := t.getD (nst t + i) 0) (by rw [nI_clamp (by omega), Nat.add_assoc]; exact hat _ c2) ?_
              refine v_bipush C dL_isNumeric_59 (v := 48) (by decide) ?_
              refine v_icmp_lt C 77 dL_isNumeric_61 (by decide) (fun c5 => ?_) (fun c5 => ?_)
              · skip
                refine v_iconst C dL_isNumeric_77 (v := 0) (by decide) ?_
                exact K _ (bI_f (by unfold isDig; rw [decide_eq_false (Int32.not_le.mpr c5)]; rfl))
              · skip
                refine v_aload_n C dL_isNumeric_64 (j := 3) rfl rfl ?_
                refine v_iload C dL_isNumeric_65 (j := 0) rfl ?_
                refine v_iald C dL_isNumeric_67 1 ht1 (N_t hj) (vp_in_nI (by show b + nst t + i < 61; omega) (by decide)) ?_
                refine v_int (b := t.getD (nst t + i) 0) (by rw [nI_clamp (by omega), Nat.add_assoc]; exact hat _ c2) ?_
                refine v_bipush C dL_isNumeric_68 (v := 57) (by decide) ?_
                refine v_icmp_gt C 77 dL_isNumeric_70 (by decide) (fun c6 => ?_) (fun c6 => ?_)
                · skip
                  refine v_iconst C dL_isNumeric_77 (v := 0) (by decide) ?_
                  exact K _ (bI_f (by unfold isDig; rw [decide_eq_false (p := t.getD (nst t + i) 0 ≤ 57) (Int32.not_le.mpr c6), Bool.and_false]))
                · skip
                  refine v_iconst C dL_isNumeric_73 (v := 1) (by decide) ?_
                  refine v_goto C 78 dL_isNumeric_74 (by decide) ?_
                  exact K _ (bI_t (by unfold isDig; rw [decide_eq_true (Int32.not_lt.mp c5), decide_eq_true (Int32.not_lt.mp c6)]; rfl))
    · skip
      refine v_iload_n C dL_isNumeric_21 (j := 3) rfl rfl ?_
      refine v_iload_n C dL_isNumeric_22 (j := 0) rfl rfl ?_
      refine v_icmp_le C 38 dL_isNumeric_23 (by decide) (fun c1 => ?_) (fun c1 => ?_)
      · skip
        have c2 := le_of c1 (by omega) (by omega)
        refine v_iconst C dL_isNumeric_38 (v := 0) (by decide) ?_
        exact K _ (bI_f (decide_eq_false (by omega)))
      · skip
        have c2 := lt_ofn c1 (by omega) (by omega)
        refine v_iload_n C dL_isNumeric_26 (j := 3) rfl rfl ?_
        refine v_iload_n C dL_isNumeric_27 (j := 0) rfl rfl ?_
        refine v_bipush C dL_isNumeric_28 (v := 10) (by decide) ?_
        refine v_iadd C dL_isNumeric_30 ?_
        refine v_int (b := nI (b + nst t + 10)) (nI_add (b + nst t) 10) ?_
        refine v_icmp_ge C 38 dL_isNumeric_31 (by decide) (fun c3 => ?_) (fun c3 => ?_)
        · skip
          have c4 := le_of c3 (by omega) (by omega)
          refine v_iconst C dL_isNumeric_38 (v := 0) (by decide) ?_
          exact K _ (bI_f (decide_eq_false (by omega)))
        · skip
          have c4 := lt_ofn c3 (by omega) (by omega)
          refine v_iconst C dL_isNumeric_34 (v := 1) (by decide) ?_
          refine v_goto C 39 dL_isNumeric_35 (by decide) ?_
          exact K _ (bI_t (decide_eq_true (by omega)))
  · skip
    refine v_iload_n C dL_isNumeric_0 (j := 1) rfl rfl ?_
    refine v_iload_n C dL_isNumeric_1 (j := 2) rfl rfl ?_
    refine v_icmp_ge C 19 dL_isNumeric_2 (by decide) (fun c1 => ?_) (fun c1 => ?_)
    · skip
      have c2 := le_of c1 (by omega) (by omega)
      refine v_iload_n C dL_isNumeric_19 (j := 1) rfl rfl ?_
      exact K _ (by rw [nst_nil (by omega)]; rfl)
    · skip
      have c2 := lt_ofn c1 (by omega) (by omega)
      refine v_aload_n C dL_isNumeric_5 (j := 0) rfl rfl ?_
      refine v_iload_n C dL_isNumeric_6 (j := 1) rfl rfl ?_
      refine v_iald C dL_isNumeric_7 1 ht1 (N_t hj) (vp_in_nI (by show b < 61; omega) (by decide)) ?_
      refine v_int (b := t.getD 0 0) (by rw [nI_clamp (by omega)]; exact hat 0 (by omega)) ?_
      refine v_bipush C dL_isNumeric_8 (v := 45) (by decide) ?_
      refine v_icmp_ne C 19 dL_isNumeric_10 (by decide) (fun c3 => ?_) (fun c3 => ?_)
      · skip
        refine v_iload_n C dL_isNumeric_19 (j := 1) rfl rfl ?_
        exact K _ (by rw [nst_at (by omega), if_neg c3]; rfl)
      · skip
        refine v_iload_n C dL_isNumeric_13 (j := 1) rfl rfl ?_
        refine v_iconst C dL_isNumeric_14 (v := 1) (by decide) ?_
        refine v_iadd C dL_isNumeric_15 ?_
        refine v_goto C 20 dL_isNumeric_16 (by decide) ?_
        exact K _ (by rw [nst_at (by omega), if_pos c3, nI_1])
set_option maxRecDepth 100000 in
set_option maxHeartbeats 8000000 in
theorem n_isField (ht1 : tys[1]? = some (cI, .int)) (hR : nT 0 X r) (hg : X 5 0 = sep) {k : Nat} (hk : k ≤ 12) (n0 : Int32) : ct D tys z0 A (picN pic0 cI cJ ad al A) l yL_isField wsL_isField (rmL 2 49) [.ref (ad 0), .ref (ad 5), .int (nI k), .int n0] (y0, X, Y) (qI (picN pic0 cI cJ ad al A) A (fun q x => x = (y0, X, Y) ∧ q = bI (sameN (fld sep r k) n0))) := by
  refine ct_of RL (by decide +kernel) rfl rfl (Nat.le_of_ble_eq_true rfl) ?_
  intro p e s m below meth c C hr hm
  refine v_lv (lv' := [(0, _), (1, _), (2, _), (3, _)]) rfl ?_
  refine v_aload_n C dL_isField_0 (j := 0) rfl rfl ?_
  refine v_aload_n C dL_isField_1 (j := 1) rfl rfl ?_
  refine v_iload_n C dL_isField_2 (j := 2) rfl rfl ?_
  refine v_iconst C dL_isField_3 (v := 0) (by decide) ?_
  refine v_ci (v_runS C (n_edB ht1 hR hg hk) (va_cwS 4 C.1.2.2.2.2 gL_isField_L_edge rfl rfl rfl (by decide +kernel) ⟨Nat.le_of_ble_eq_true rfl, Nat.le_of_ble_eq_true rfl⟩) rfl dL_isField_4 (rest := []) (Nat.le_of_ble_eq_true rfl) rfl ⟨(by first | exact Nat.le_of_ble_eq_true rfl | (dsimp only; omega)), (by first | exact Nat.le_of_ble_eq_true rfl | (dsimp only; omega))⟩) (fun q x' hx' => ?_)
  obtain ⟨rfl, rfl⟩ := hx'
  refine v_istore C dL_isField_7 (by decide) (lv' := [(4, _), (0, _), (1, _), (2, _), (3, _)]) rfl ?_
  refine v_aload_n C dL_isField_9 (j := 1) rfl rfl ?_
  refine v_aload_n C dL_isField_10 (j := 2) rfl rfl ?_
  refine v_iload_n C dL_isField_11 (j := 3) rfl rfl ?_
  refine v_iconst C dL_isField_12 (v := 1) (by decide) ?_
  refine v_ci (v_runS C (n_edE ht1 hR hg hk) (va_cwS 4 C.1.2.2.2.2 gL_isField_L_edge rfl rfl rfl (by decide +kernel) ⟨Nat.le_of_ble_eq_true rfl, Nat.le_of_ble_eq_true rfl⟩) rfl dL_isField_13 (rest := []) (Nat.le_of_ble_eq_true rfl) rfl ⟨(by first | exact Nat.le_of_ble_eq_true rfl | (dsimp only; omega)), (by first | exact Nat.le_of_ble_eq_true rfl | (dsimp only; omega))⟩) (fun q x' hx' => ?_)
  obtain ⟨rfl, rfl⟩ := hx'
  refine v_istore C dL_isField_16 (by decide) (lv' := [(5, _), (4, _), (0, _), (1, _), (2, _), (3, _)]) rfl ?_
  refine v_aload_n C dL_isField_18 (j := 2) rfl rfl ?_
  refine v_iload C dL_isField_19 (j := 1) rfl ?_
  refine v_iload C dL_isField_21 (j := 0) rfl ?_
  refine v_ci (v_runS C (n_isNumeric (j := 0) ht1 (by decide) hR (eS sep r k)) (va_cwS 3 C.1.2.2.2.2 gL_isField_L_isNumeric rfl rfl rfl (by decide +kernel) ⟨Nat.le_of_ble_eq_true rfl, Nat.le_of_ble_eq_true rfl⟩) rfl dL_isField_23 (rest := []) (Nat.le_of_ble_eq_true rfl) rfl ⟨(by first | exact Nat.le_of_ble_eq_true rfl | (dsimp only; omega)), (by first | exact Nat.le_of_ble_eq_true rfl | (dsimp only; omega))⟩) (fun q x' hx' => ?_)
  obtain ⟨rfl, rfl⟩ := hx'
  refine v_if_eq C 45 dL_isField_26 (by decide) (fun c1 => ?_) (fun c1 => ?_)
  · skip
    refine v_iconst C dL_isField_45 (v := 0) (by decide) ?_
    exact v_ireturn C dL_isField_46 hr (rfl) (Nat.le_of_ble_eq_true rfl) (Nat.le_of_ble_eq_true rfl) (⟨rfl, bI_f (by unfold sameN; rw [bI_0 c1]; rfl)⟩)
  · skip
    refine v_aload_n C dL_isField_29 (j := 2) rfl rfl ?_
    refine v_iload C dL_isField_30 (j := 1) rfl ?_
    refine v_iload C dL_isField_32 (j := 0) rfl ?_
    refine v_ci (v_runS C (n_number (j := 0) ht1 (by decide) hR (eS sep r k)) (va_cwS 3 C.1.2.2.2.2 gL_isField_L_number rfl rfl rfl (by decide +kernel) ⟨Nat.le_of_ble_eq_true rfl, Nat.le_of_ble_eq_true rfl⟩) rfl dL_isField_34 (rest := []) (Nat.le_of_ble_eq_true rfl) rfl ⟨(by first | exact Nat.le_of_ble_eq_true rfl | (dsimp only; omega)), (by first | exact Nat.le_of_ble_eq_true rfl | (dsimp only; omega))⟩) (fun q x' hx' => ?_)
    obtain ⟨rfl, rfl⟩ := hx'
    refine v_iload_n C dL_isField_37 (j := 5) rfl rfl ?_
    refine v_icmp_ne C 45 dL_isField_38 (by decide) (fun c2 => ?_) (fun c2 => ?_)
    · skip
      refine v_iconst C dL_isField_45 (v := 0) (by decide) ?_
      exact v_ireturn C dL_isField_46 hr (rfl) (Nat.le_of_ble_eq_true rfl) (Nat.le_of_ble_eq_true rfl) (⟨rfl, bI_f (by unfold sameN; rw [bI_1 c1, decide_eq_false c2]; rfl)⟩)
    · skip
      refine v_iconst C dL_isField_41 (v := 1) (by decide) ?_
      refine v_goto C 46 dL_isField_42 (by decide) ?_
      exact v_ireturn C dL_isField_46 hr (rfl) (Nat.le_of_ble_eq_true rfl) (Nat.le_of_ble_eq_true rfl) (⟨rfl, bI_t (by unfold sameN; rw [bI_1 c1, decide_eq_true c2]; rfl)⟩)
end NN
