/-! ===== the law: what it draws; the state with a rule, an action, a sign more ===== -/

theorem okOp_is {z : Int32} (h : okOp z) : isOpd z = true := by
  unfold isOpd isNb
  rcases h with q | q | q | q
  · rw [decide_eq_true q.1, decide_eq_true q.2]; rfl
  · rw [decide_eq_true q.1, decide_eq_true q.2]; simp
  · rw [decide_eq_true q]; simp
  · rw [decide_eq_true q]; simp
theorem okOp_lt {z : Int32} (h : okOp z) : ¬ 10000 ≤ z := by
  intro w
  have w2 := Int32.le_iff_toInt_le.mp w
  rw [show (10000 : Int32).toInt = 10000 from by decide] at w2
  rcases h with q | q | q | q
  · have a2 := Int32.le_iff_toInt_le.mp q.2
    rw [show (9999 : Int32).toInt = 9999 from by decide] at a2
    omega
  · have a2 := Int32.le_iff_toInt_le.mp q.2
    rw [show (-1 : Int32).toInt = -1 from by decide] at a2
    omega
  · rw [q, show (-20 : Int32).toInt = -20 from by decide] at w2; omega
  · rw [q, show (-21 : Int32).toInt = -21 from by decide] at w2; omega
theorem nRu_new {X X' : Nat → Nat → Int32} {Y : Nat → Nat → Int64} {rls : List Rl} {pat a b : Int32} (h : nRu X Y rls) (hl : rls.length < 8) (hp : isPat pat a b = true) (h3 : X' 5 3 = nI (rls.length + 1)) (n0 : X' 4 (5 * rls.length) = pat) (n1 : X' 4 (5 * rls.length + 1) = a) (n2 : X' 4 (5 * rls.length + 2) = b) (ho : ∀ j, j ≠ 5 * rls.length → j ≠ 5 * rls.length + 1 → j ≠ 5 * rls.length + 2 → X' 4 j = X 4 j) : nRu X' Y (rls ++ [((pat, a, b), false, [])]) := by
  obtain ⟨g1, g2, g3, g4⟩ := h
  have hlen : (rls ++ [((pat, a, b), false, ([] : List Ac))]).length = rls.length + 1 := by simp
  refine ⟨by rw [h3, hlen], by omega, fun i hi => ?_, fun i hi hi8 => ?_⟩
  · rw [hlen] at hi
    by_cases hil : i = rls.length
    · subst hil
      rw [getD_app2]
      have g9 := g4 rls.length (Nat.le_refl _) hl
      refine ⟨n0, n1, n2, by rw [ho _ (by omega) (by omega) (by omega)]; exact g9.1, by rw [ho _ (by omega) (by omega) (by omega)]; exact g9.2, Nat.zero_le _, ?_, isPat_ok hp, fun j hj => absurd hj (Nat.not_lt_zero j)⟩
      dsimp only
      unfold isPat at hp
      by_cases z0 : pat = 0
      · exact Or.inl z0
      · rw [if_neg z0] at hp
        by_cases z1 : pat = 1
        · exact Or.inr (Or.inl z1)
        · rw [if_neg z1] at hp
          by_cases z2 : pat = 2
          · exact Or.inr (Or.inr (Or.inl z2))
          · rw [if_neg z2] at hp
            by_cases z3 : pat = 3
            · exact Or.inr (Or.inr (Or.inr z3))
            · rw [if_neg z3] at hp; cases hp
    · rw [getD_app1 (by omega)]
      obtain ⟨q0, q1, q2, q3, q4, q5, q6, q7, q8⟩ := g3 i (by omega)
      exact ⟨by rw [ho _ (by omega) (by omega) (by omega)]; exact q0, by rw [ho _ (by omega) (by omega) (by omega)]; exact q1, by rw [ho _ (by omega) (by omega) (by omega)]; exact q2, by rw [ho _ (by omega) (by omega) (by omega)]; exact q3, by rw [ho _ (by omega) (by omega) (by omega)]; exact q4, q5, q6, q7, q8⟩
  · rw [hlen] at hi
    rw [ho _ (by omega) (by omega) (by omega), ho _ (by omega) (by omega) (by omega)]
    exact g4 i (by omega) hi8
theorem isAc_ok {c : Ac} (h : isAc c = true) : okA c := by
  unfold isAc at h
  simp only [Bool.and_eq_true] at h
  obtain ⟨⟨h1, h2⟩, ⟨h3, h4⟩, h5⟩ := h
  have k5 : ∀ z : Int32, isKd z = true → ∃ k, k < 5 ∧ z = nI k := fun z hz => by
    rcases isKd_ok hz with q | q | q | q | q
    · exact ⟨0, by decide, q⟩
    · exact ⟨1, by decide, q⟩
    · exact ⟨2, by decide, q⟩
    · exact ⟨3, by decide, q⟩
    · exact ⟨4, by decide, q⟩
  refine ⟨k5 _ h1, ?_, k5 _ h3, isOpd_ok h4, isOpd_ok h5⟩
  unfold isFd at h2
  rw [Bool.and_eq_true] at h2
  obtain ⟨k, hk, e⟩ := nI_of2 (M := 12) (n := 12) rfl (Int32.not_lt.mpr (of_decide_eq_true h2.1)) (of_decide_eq_true h2.2)
  exact ⟨k, by omega, e⟩
theorem nRu_act {X X' : Nat → Nat → Int32} {Y Y' : Nat → Nat → Int64} {rls : List Rl} {i : Nat} {c : Ac} (h : nRu X Y rls) (hi : i < rls.length) (hl : (rls.getD i rl0).2.2.length < 6) (hc : okA c) (h3 : X' 5 3 = X 5 3) (n4 : X' 4 (5 * i + 4) = nI ((rls.getD i rl0).2.2.length + 1)) (ho : ∀ j, j ≠ 5 * i + 4 → X' 4 j = X 4 j) (yn : Y' 0 (6 * i + (rls.getD i rl0).2.2.length) = lN (pkA c)) (yo : ∀ j, j ≠ 6 * i + (rls.getD i rl0).2.2.length → Y' 0 j = Y 0 j) : nRu X' Y' (actR rls i c) := by
  obtain ⟨g1, g2, g3, g4⟩ := h
  have hlen : (actR rls i c).length = rls.length := by unfold actR; rw [List.length_set]
  refine ⟨by rw [h3, g1, hlen], by omega, fun j hj => ?_, fun j hj hj8 => ?_⟩
  · rw [hlen] at hj
    unfold actR
    rw [rl_set _ hi]
    obtain ⟨q0, q1, q2, q3, q4, q5, q6, q7, q8⟩ := g3 j hj
    by_cases hji : j = i
    · rw [if_pos hji]
      subst hji
      refine ⟨by rw [ho _ (by omega)]; exact q0, by rw [ho _ (by omega)]; exact q1, by rw [ho _ (by omega)]; exact q2, by rw [ho _ (by omega)]; exact q3, by rw [n4]; dsimp only; rw [List.length_append, List.length_singleton], by dsimp only; rw [List.length_append, List.length_singleton]; omega, q6, q7, fun k hk => ?_⟩
      simp only [List.length_append, List.length_singleton] at hk
      by_cases hkl : k = (rls.getD j rl0).2.2.length
      · rw [hkl, getD_app2]
        exact ⟨hc, yn⟩
      · rw [getD_app1 (by omega), yo _ (by omega)]
        exact q8 k (by omega)
    · rw [if_neg hji]
      exact ⟨by rw [ho _ (by omega)]; exact q0, by rw [ho _ (by omega)]; exact q1, by rw [ho _ (by omega)]; exact q2, by rw [ho _ (by omega)]; exact q3, by rw [ho _ (by omega)]; exact q4, q5, q6, q7, fun k hk => by rw [yo _ (by omega)]; exact q8 k hk⟩
  · rw [hlen] at hj
    rw [ho _ (by omega), ho _ (by omega)]
    exact g4 j hj hj8
section ND
variable {l : Launch} {D : va_G} {tys : List (ClassId × FieldType)} {z0 : Nat} {A : Nat → Prop}
set_option maxRecDepth 100000 in
set_option maxHeartbeats 8000000 in
theorem n_drawn {σ : Type} {pic : σ → Heap → Prop} {x : σ} {t : Nat} (ht : t < 2 ^ 31) : ct D tys z0 A pic l yL_drawn wsL_drawn rm0 [.int (nI t)] x (qI pic A (fun r x' => x' = x ∧ okOp r)) := by
  refine ct_of RL (by decide +kernel) rfl rfl (Nat.le_of_ble_eq_true rfl) ?_
  have ht3 : t / 3 < 2 ^ 31 := Nat.lt_of_le_of_lt (Nat.div_le_self _ _) ht
  intro p e s m below meth c C hr hm
  refine v_lv (lv' := [(0, _)]) rfl ?_
  refine v_cut (pcj := 63) (lvj := [(0, .int (nI t))]) (stj := []) (fun w => okOp w) (fun w hw => ?_) (fun K => ?_)
  · skip
    exact v_ireturn C dL_drawn_63 hr (rfl) (Nat.le_of_ble_eq_true rfl) (Nat.le_of_ble_eq_true rfl) (⟨rfl, hw⟩)
  · skip
    refine v_iload_n C dL_drawn_0 (j := 0) rfl rfl ?_
    refine v_iconst C dL_drawn_1 (v := 3) (by decide) ?_
    refine v_irem C dL_drawn_2 (by decide) ?_
    refine v_int (b := nI (t % 3)) (pk_rem (d := 3) ht (by decide) (by decide)) ?_
    refine v_if_ne C 15 dL_drawn_3 (by decide) (fun c1 => ?_) (fun c1 => ?_)
    · skip
      refine v_iload_n C dL_drawn_15 (j := 0) rfl rfl ?_
      refine v_iconst C dL_drawn_16 (v := 3) (by decide) ?_
      refine v_irem C dL_drawn_17 (by decide) ?_
      refine v_int (b := nI (t % 3)) (pk_rem (d := 3) ht (by decide) (by decide)) ?_
      refine v_iconst C dL_drawn_18 (v := 1) (by decide) ?_
      refine v_icmp_ne C 33 dL_drawn_19 (by decide) (fun c2 => ?_) (fun c2 => ?_)
      · skip
        refine v_iload_n C dL_drawn_33 (j := 0) rfl rfl ?_
        refine v_bipush C dL_drawn_34 (v := 30) (by decide) ?_
        refine v_irem C dL_drawn_36 (by decide) ?_
        refine v_iconst C dL_drawn_37 (v := 2) (by decide) ?_
        refine v_icmp_ne C 47 dL_drawn_38 (by decide) (fun c3 => ?_) (fun c3 => ?_)
        · skip
          refine v_iload_n C dL_drawn_47 (j := 0) rfl rfl ?_
          refine v_bipush C dL_drawn_48 (v := 30) (by decide) ?_
          refine v_irem C dL_drawn_50 (by decide) ?_
          refine v_bipush C dL_drawn_51 (v := 12) (by decide) ?_
          refine v_icmp_ge C 61 dL_drawn_53 (by decide) (fun c4 => ?_) (fun c4 => ?_)
          · skip
            refine v_bipush C dL_drawn_61 (v := (-21)) (by decide) ?_
            exact K _ (Or.inr (Or.inr (Or.inr rfl)))
          · skip
            refine v_bipush C dL_drawn_56 (v := (-20)) (by decide) ?_
            refine v_goto C 63 dL_drawn_58 (by decide) ?_
            exact K _ (Or.inr (Or.inr (Or.inl rfl)))
        · skip
          refine v_sipush C dL_drawn_41 (v := 9999) (by decide) ?_
          refine v_goto C 63 dL_drawn_44 (by decide) ?_
          exact K _ (Or.inl ⟨by decide, by decide⟩)
      · skip
        refine v_iconst C dL_drawn_22 (v := (-1)) (by decide) ?_
        refine v_iload_n C dL_drawn_23 (j := 0) rfl rfl ?_
        refine v_iconst C dL_drawn_24 (v := 3) (by decide) ?_
        refine v_idiv C dL_drawn_25 (by decide) ?_
        refine v_int (b := nI (t / 3)) (pk_div (d := 3) ht (by decide) (by decide)) ?_
        refine v_bipush C dL_drawn_26 (v := 13) (by decide) ?_
        refine v_irem C dL_drawn_28 (by decide) ?_
        refine v_int (b := nI (t / 3 % 13)) (pk_rem (d := 13) ht3 (by decide) (by decide)) ?_
        refine v_isub C dL_drawn_29 ?_
        refine v_goto C 63 dL_drawn_30 (by decide) ?_
        have hA : ∀ k : Fin 13, -13 ≤ -1 - nI k.val ∧ -1 - nI k.val ≤ -1 := by decide +kernel
        exact K _ (Or.inr (Or.inl (hA ⟨t / 3 % 13, Nat.mod_lt _ (by decide)⟩)))
    · skip
      refine v_iload_n C dL_drawn_6 (j := 0) rfl rfl ?_
      refine v_iconst C dL_drawn_7 (v := 3) (by decide) ?_
      refine v_idiv C dL_drawn_8 (by decide) ?_
      refine v_int (b := nI (t / 3)) (pk_div (d := 3) ht (by decide) (by decide)) ?_
      refine v_bipush C dL_drawn_9 (v := 100) (by decide) ?_
      refine v_irem C dL_drawn_11 (by decide) ?_
      refine v_int (b := nI (t / 3 % 100)) (pk_rem (d := 100) ht3 (by decide) (by decide)) ?_
      refine v_goto C 63 dL_drawn_12 (by decide) ?_
      have h9 : t / 3 % 100 < 100 := Nat.mod_lt _ (by decide)
      exact K _ (Or.inl ⟨nI_pos' (by omega), (nI_leI (b := 9999) (by omega) (by decide)).mpr (by omega)⟩)
end ND
