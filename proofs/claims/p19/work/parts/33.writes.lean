/-! ===== the law: a number written ===== -/
theorem wwL_writes_k72 : Cond.constantLong RL 72 (9) ∈ wsL_writes := by decide +kernel
theorem wwL_writes_k74 : Cond.constantLong RL 74 (10) ∈ wsL_writes := by decide +kernel
theorem lN_mul9 (a b : Nat) : lN a * lN b = lN (a * b) := (Int64.ofNat_mul a b).symm
theorem lN_ne {a : Nat} (h : 0 < a) (h2 : a < 2 ^ 31) : ¬ lN a = 0 := fun z => by
  have := (lN_eq (a := a) (b := 0) h2 (by decide)).mp z
  omega
theorem p10 {k : Nat} (h : k ≤ 9) : 10 ^ k ≤ 1000000000 := Nat.pow_le_pow_right (n := 10) (by decide) h
theorem p10p (k : Nat) : 0 < 10 ^ k := Nat.pow_pos (by decide)
section NW
variable {l : Launch} {D : va_G} {tys : List (ClassId × FieldType)} {z0 : Nat} {A : Nat → Prop} {σ0 : Type} {pic0 : σ0 → Heap → Prop} {cI cJ : ClassId} {ad al : Nat → Nat} {y0 : σ0} {X : Nat → Nat → Int32} {Y : Nat → Nat → Int64} {sep : Int32} {u : List Int32}
set_option maxRecDepth 100000 in
set_option maxHeartbeats 8000000 in
theorem n_writes (ht1 : tys[1]? = some (cI, .int)) (hu : nT 1 X u) (n0 : Int32) : ct D tys z0 A (picN pic0 cI cJ ad al A) l yL_writes wsL_writes (rmL 1 21) [.ref (ad 1), .int n0] (y0, X, Y) (qV (picN pic0 cI cJ ad al A) A (fun x => ∃ X', x = (y0, X', Y) ∧ nT 1 X' (app60 u (dec n0)) ∧ ich [1] X X')) := by
  obtain ⟨N, hN⟩ : ∃ N, N = n0.toInt.natAbs := ⟨_, rfl⟩
  have hN2 : N ≤ 2147483648 := by rw [hN]; exact abs_lt n0
  have hnd := ndig_in N
  refine ct_of RL (by decide +kernel) rfl rfl (Nat.le_of_ble_eq_true rfl) ?_
  intro p e s m below meth c C hr hm
  refine v_lv (lv' := [(0, _), (1, _)]) rfl ?_
  refine v_cut0 (pcj := 12) (lvj := [(0, .ref (ad 1)), (1, .int n0)]) (stj := [.long (lN N)]) True (fun _ => ?_) (fun K => ?_)
  · skip
    refine v_lstore_n C dL_writes_12 rfl (by decide) (lv' := [(2, _), (0, _), (1, _)]) rfl ?_
    refine v_cutX (pcj := 23) (fun w : (Nat → Nat → Int32) => (y0, w, Y)) (fun _ => [(2, .long (lN N)), (0, .ref (ad 1)), (1, .int n0)]) (fun _ => []) (fun w => ich [1] X w ∧ ∃ p0, nT 1 w (app60 u p0) ∧ p0 ++ dl N (ndig N) = dec n0) (fun X1 hw => ?_) (fun K2 => ?_)
    · skip
      obtain ⟨w1, p0, w3, w4⟩ := hw
      refine v_lconst C dL_writes_23 (v := 1) (by decide) ?_
      refine v_lstore C dL_writes_24 (by decide) (lv' := [(4, _), (2, _), (0, _), (1, _)]) rfl ?_
      obtain ⟨k, hk, hk9⟩ : ∃ k, k = 0 ∧ k < ndig N := ⟨0, rfl, by omega⟩
      refine v_lv (lv' := [(4, .long (lN (10 ^ k))), (2, _), (0, _), (1, _)]) (by rw [hk]; rfl) ?_
      clear hk
      induction hd : (10 - k) using Nat.strongRecOn generalizing k with | _ d ih =>
        have h10 := p10 (k := k) (by omega)
        have h1p := p10p k
        have hdv : N / 10 ^ k < 2 ^ 63 := Nat.lt_of_le_of_lt (Nat.div_le_self _ _) (by omega)
        refine v_lload_n C dL_writes_26 (j := 1) rfl rfl ?_
        refine v_lload C dL_writes_27 (j := 0) rfl ?_
        refine v_ldiv C dL_writes_29 (lN_ne h1p (by omega)) ?_
        rw [pk_lDiv (a := N) (b := 10 ^ k) (by omega) h1p (by omega)]
        refine v_ldc2 C dL_writes_30 (v := (9)) wwL_writes_k72 ?_
        refine v_lcmp C dL_writes_33 ?_
        refine v_if_le C 48 dL_writes_34 (by decide) (fun c1 => ?_) (fun c1 => ?_)
        · skip
          have c2 : N / 10 ^ k ≤ 9 := (lc_le (a := N / 10 ^ k) (b := 9) hdv (by decide)).mp c1
          have c3 : N < 10 ^ (k + 1) := by
              rw [Nat.pow_succ, Nat.mul_comm]
              exact (Nat.div_lt_iff_lt_mul h1p).mp (by omega)
          have c4 : ndig N = k + 1 := by
              by_cases c5 : k + 1 < 10
              · have c6 : ¬ (k + 1 < ndig N) := fun z => by
                    rcases (ndig_iff (n := N) c5 (by omega)).mp z with q | q
                    · omega
                    · omega
                omega
              · omega
          obtain ⟨i, p1, hi, hp1, hi10, w5, w6⟩ : ∃ (i : Nat) (p1 : List Int32), i = k + 1 ∧ p1 = p0 ∧ i ≤ 10 ∧ nT 1 X1 (app60 u p1) ∧ p1 ++ dl N i = dec n0 := ⟨_, _, rfl, rfl, by omega, w3, by rw [← c4]; exact w4⟩
          refine v_lv (lv' := [(4, .long (lN (if i = 0 then 0 else 10 ^ (i - 1)))), (2, _), (0, _), (1, _)]) (by rw [hi, if_neg (by omega), Nat.add_sub_cancel]) ?_
          clear hi hp1 c1 c2 c3 c4 hdv h10 h1p hk9 ih w3 w4
          induction hd3 : (0 + i) using Nat.strongRecOn generalizing X1 p1 i with | _ d3 ih3 =>
            refine v_lload C dL_writes_48 (j := 0) rfl ?_
            refine v_lconst C dL_writes_50 (v := 0) (by decide) ?_
            refine v_lcmp C dL_writes_51 ?_
            refine v_if_le C 82 dL_writes_52 (by decide) (fun c6 => ?_) (fun c6 => ?_)
            · skip
              have c7 : i = 0 := by
                  rcases Nat.eq_zero_or_pos i with z | z
                  · exact z
                  · have q1 := p10 (k := i - 1) (by omega)
                    have q2 := p10p (i - 1)
                    rw [if_neg (by omega)] at c6
                    have := (lc_le (a := 10 ^ (i - 1)) (b := 0) (by omega) (by decide)).mp c6
                    omega
              have e9 : p1 = dec n0 := by rw [← w6, c7]; simp [dl]
              exact v_return C dL_writes_82 hr (Nat.le_of_ble_eq_true rfl) (Nat.le_of_ble_eq_true rfl) (⟨X1, rfl, by rw [← e9]; exact w5, w1⟩)
            · skip
              obtain ⟨c8, rfl⟩ : ∃ c8, i = c8 + 1 := by
                  cases i with
                  | zero => exact absurd (by decide) c6
                  | succ c8 => exact ⟨c8, rfl⟩
              have q1 := p10 (k := c8) (by omega)
              have q2 := p10p c8
              have hdv : N / 10 ^ c8 < 2 ^ 63 := Nat.lt_of_le_of_lt (Nat.div_le_self _ _) (by omega)
              clear c6
              rw [if_neg (by omega), Nat.add_sub_cancel]
              refine v_aload_n C dL_writes_55 (j := 2) rfl rfl ?_
              refine v_bipush C dL_writes_56 (v := 48) (by decide) ?_
              refine v_lload_n C dL_writes_58 (j := 1) rfl rfl ?_
              refine v_lload C dL_writes_59 (j := 0) rfl ?_
              refine v_ldiv C dL_writes_61 (lN_ne q2 (by omega)) ?_
              rw [pk_lDiv (a := N) (b := 10 ^ c8) (by omega) q2 (by omega)]
              refine v_ldc2 C dL_writes_62 (v := (10)) wwL_writes_k74 ?_
              refine v_lrem C dL_writes_65 (by decide) ?_
              refine v_l2i C dL_writes_66 ?_
              refine v_int (b := nI (N / 10 ^ c8 % 10)) (by rw [show (10 : Int64) = lN 10 from rfl, pk_lRem hdv (by decide) (by decide), lN_i]) ?_
              refine v_iadd C dL_writes_67 ?_
              refine v_int (b := dig N c8) (nI_add 48 _) ?_
              refine v_cv (v_runS C (n_puts (j := 1) ht1 (by decide) w5 (dig N c8)) (va_cwS 2 C.1.2.2.2.2 gL_writes_L_puts rfl rfl rfl (by decide +kernel) ⟨Nat.le_of_ble_eq_true rfl, Nat.le_of_ble_eq_true rfl⟩) rfl dL_writes_68 (rest := []) (Nat.le_of_ble_eq_true rfl) rfl ⟨(by first | exact Nat.le_of_ble_eq_true rfl | (dsimp only; omega)), (by first | exact Nat.le_of_ble_eq_true rfl | (dsimp only; omega))⟩) (fun x' hx' => ?_)
              obtain ⟨X2, rfl, g1, g2⟩ := hx'
              refine v_lload C dL_writes_71 (j := 0) rfl ?_
              refine v_ldc2 C dL_writes_73 (v := (10)) wwL_writes_k74 ?_
              refine v_ldiv C dL_writes_76 (by decide) ?_
              refine v_lstore C dL_writes_77 (by decide) (lv' := [(4, _), (2, _), (0, _), (1, _)]) rfl ?_
              refine v_goto C 48 dL_writes_79 (by decide) ?_
              have e9 : lN (10 ^ c8) / 10 = lN (if c8 = 0 then 0 else 10 ^ (c8 - 1)) := by
                  rw [show (10 : Int64) = lN 10 from rfl, pk_lDiv (a := 10 ^ c8) (by omega) (by decide) (by decide)]
                  congr 1
                  by_cases z : c8 = 0
                  · rw [if_pos z, z]
                  · rw [if_neg z]
                    obtain ⟨c9, rfl⟩ : ∃ c9, c8 = c9 + 1 := ⟨c8 - 1, by omega⟩
                    rw [Nat.pow_succ, Nat.add_sub_cancel, Nat.mul_div_cancel _ (by decide)]
              refine v_lv (lv' := [(4, .long (lN (if c8 = 0 then 0 else 10 ^ (c8 - 1)))), (2, _), (0, _), (1, _)]) (by rw [e9]) ?_
              exact ih3 (0 + c8) (by omega) X2 (w1.tr g2) c8 (p1 ++ [dig N c8]) (by omega) (by rw [app60_snoc]; exact g1) (by rw [← w6]; simp [dl]) rfl
        · skip
          have c2 : ¬ N / 10 ^ k ≤ 9 := fun z => c1 ((lc_le (a := N / 10 ^ k) (b := 9) hdv (by decide)).mpr z)
          have c3 : 10 ^ (k + 1) ≤ N := by
              rw [Nat.pow_succ, Nat.mul_comm]
              exact (Nat.le_div_iff_mul_le h1p).mp (by omega)
          have c4 : k + 1 < 10 := Nat.lt_of_not_le (fun z => by
              have : 10 ^ 10 ≤ 10 ^ (k + 1) := Nat.pow_le_pow_right (by decide) z
              omega)
          have c5 : k + 1 < ndig N := (ndig_iff (n := N) c4 (by omega)).mpr (Or.inl c3)
          refine v_lload C dL_writes_37 (j := 0) rfl ?_
          refine v_ldc2 C dL_writes_39 (v := (10)) wwL_writes_k74 ?_
          refine v_lmul C dL_writes_42 ?_
          refine v_lstore C dL_writes_43 (by decide) (lv' := [(4, _), (2, _), (0, _), (1, _)]) rfl ?_
          refine v_goto C 26 dL_writes_45 (by decide) ?_
          refine v_lv (lv' := [(4, .long (lN (10 ^ (k + 1)))), (2, _), (0, _), (1, _)]) (by rw [show (10 : Int64) = lN 10 from rfl, lN_mul9, ← Nat.pow_succ]) ?_
          exact ih (10 - (k + 1)) (by omega) (k + 1) c5 rfl
    · skip
      refine v_iload_n C dL_writes_13 (j := 2) rfl rfl ?_
      refine v_if_ge C 23 dL_writes_14 (by decide) (fun c5 => ?_) (fun c5 => ?_)
      · skip
        have hd9 : dec n0 = dl N (ndig N) := by unfold dec; rw [if_neg (Int32.not_lt.mpr c5), ← hN]
        exact K2 X ⟨ich.rf, [], by rw [app60_nil hu.2.1]; exact hu, by rw [hd9]; rfl⟩
      · skip
        have hd9 : dec n0 = 45 :: dl N (ndig N) := by unfold dec; rw [if_pos (Int32.not_le.mp c5), ← hN]
        refine v_aload_n C dL_writes_17 (j := 1) rfl rfl ?_
        refine v_bipush C dL_writes_18 (v := 45) (by decide) ?_
        refine v_cv (v_runS C (n_puts (j := 1) ht1 (by decide) hu 45) (va_cwS 2 C.1.2.2.2.2 gL_writes_L_puts rfl rfl rfl (by decide +kernel) ⟨Nat.le_of_ble_eq_true rfl, Nat.le_of_ble_eq_true rfl⟩) rfl dL_writes_20 (rest := []) (Nat.le_of_ble_eq_true rfl) rfl ⟨(by first | exact Nat.le_of_ble_eq_true rfl | (dsimp only; omega)), (by first | exact Nat.le_of_ble_eq_true rfl | (dsimp only; omega))⟩) (fun x' hx' => ?_)
        obtain ⟨X2, rfl, g1, g2⟩ := hx'
        exact K2 X2 ⟨g2, [45], by rw [← put60_app hu.2.1]; exact g1, by rw [hd9]; rfl⟩
  · skip
    refine v_iload_n C dL_writes_0 (j := 1) rfl rfl ?_
    refine v_if_ge C 10 dL_writes_1 (by decide) (fun c1 => ?_) (fun c1 => ?_)
    · skip
      refine v_iload_n C dL_writes_10 (j := 1) rfl rfl ?_
      refine v_i2l C dL_writes_11 ?_
      refine v_long (b := lN N) (by rw [hN]; exact long_abs (Int32.not_lt.mpr c1)) ?_
      exact K trivial
    · skip
      refine v_iload_n C dL_writes_4 (j := 1) rfl rfl ?_
      refine v_i2l C dL_writes_5 ?_
      refine v_lneg C dL_writes_6 ?_
      refine v_goto C 12 dL_writes_7 (by decide) ?_
      refine v_long (b := lN N) (by rw [hN]; exact long_neg (Int32.not_le.mp c1)) ?_
      exact K trivial
end NW
