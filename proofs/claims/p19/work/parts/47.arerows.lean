/-! ===== the law: are the rows and the last line the law's ===== -/
theorem wwL_isKey_k47 : Cond.constant RL 47 (-300000) ∈ wsL_isKey := by decide +kernel
theorem al_pos : ∀ c ∈ alph, ¬ c ≤ 0 := by decide +kernel
theorem dv_key {S : aS} {z p0 : Int32} (h : ¬ ((0 ≤ z ∧ z < nI S.2.2.2.1.2.1.length) ∧ 0 ≤ p0 ∧ p0 < nI (S.2.2.2.1.2.1.getD z.toNatClampNeg ([], 0)).1.length)) : dval [-300000] (opKey S z p0) = -300000 ∧ (opKey S z p0).2.2 = S := by unfold opKey; rw [if_neg h]; exact ⟨rfl, rfl⟩
theorem dv_keyI {S : aS} {z p0 : Int32} (h : (0 ≤ z ∧ z < nI S.2.2.2.1.2.1.length) ∧ 0 ≤ p0 ∧ p0 < nI (S.2.2.2.1.2.1.getD z.toNatClampNeg ([], 0)).1.length) : dval [-300000] (opKey S z p0) = atT (S.2.2.2.1.2.1.getD z.toNatClampNeg ([], 0)).1 p0 ∧ (opKey S z p0).2.2 = S := by unfold opKey; rw [if_pos h]; exact ⟨rfl, rfl⟩
theorem dv_line {S : aS} {z p0 : Int32} (h : ¬ ((0 ≤ z ∧ z < nI S.2.2.2.1.2.2.1.length) ∧ 0 ≤ p0 ∧ p0 < nI (S.2.2.2.1.2.2.1.getD z.toNatClampNeg []).length)) : dval [-300000] (opLine S z p0) = -300000 ∧ (opLine S z p0).2.2 = S := by unfold opLine; rw [if_neg h]; exact ⟨rfl, rfl⟩
theorem dv_lineI {S : aS} {z p0 : Int32} (h : (0 ≤ z ∧ z < nI S.2.2.2.1.2.2.1.length) ∧ 0 ≤ p0 ∧ p0 < nI (S.2.2.2.1.2.2.1.getD z.toNatClampNeg []).length) : dval [-300000] (opLine S z p0) = atT (S.2.2.2.1.2.2.1.getD z.toNatClampNeg []) p0 ∧ (opLine S z p0).2.2 = S := by unfold opLine; rw [if_pos h]; exact ⟨rfl, rfl⟩
theorem dv_row {S : aS} {z : Int32} (h : ¬ (0 ≤ z ∧ z < nI S.2.2.2.1.2.1.length)) : dval [-300000] (opRow S z) = -300000 ∧ (opRow S z).2.2 = S := by unfold opRow; rw [if_neg h]; exact ⟨rfl, rfl⟩
/-- the sign at n, or the number of 'no such place' -/
def sgA (s : List Int32) (n : Nat) : Int32 := if n < s.length then s.getD n 0 else -300000
theorem dv_keyA {S : aS} {i n : Nat} (hi : i < S.2.2.2.1.2.1.length) (h20 : S.2.2.2.1.2.1.length ≤ 20) (hn : n < 1000) (hl : (S.2.2.2.1.2.1.getD i ([], 0)).1.length ≤ 60) : dval [-300000] (opKey S (nI i) (nI n)) = sgA (S.2.2.2.1.2.1.getD i ([], 0)).1 n ∧ (opKey S (nI i) (nI n)).2.2 = S := by
  have hc : (nI i).toNatClampNeg = i := nI_clamp (by omega)
  unfold sgA
  by_cases h : n < (S.2.2.2.1.2.1.getD i ([], 0)).1.length
  · rw [if_pos h]
    have h9 : (0 ≤ nI i ∧ nI i < nI S.2.2.2.1.2.1.length) ∧ 0 ≤ nI n ∧ nI n < nI (S.2.2.2.1.2.1.getD (nI i).toNatClampNeg ([], 0)).1.length := by
      rw [hc]
      exact ⟨⟨nI_pos' (by omega), (nI_ltI (by omega) (by omega)).mpr hi⟩, nI_pos' (by omega), (nI_ltI (by omega) (by omega)).mpr h⟩
    have h8 := dv_keyI h9
    rw [hc] at h8 h9
    refine ⟨?_, h8.2⟩
    rw [h8.1]
    unfold atT
    rw [if_pos h9.2, nI_clamp (by omega)]
  · rw [if_neg h]
    refine dv_key (fun z => h ?_)
    rw [hc] at z
    exact (nI_ltI (by omega) (by omega)).mp z.2.2
theorem dv_lineA {S : aS} {i n : Nat} (hi : i < S.2.2.2.1.2.2.1.length) (h20 : S.2.2.2.1.2.2.1.length ≤ 40) (hn : n < 1000) (hl : (S.2.2.2.1.2.2.1.getD i []).length ≤ 60) : dval [-300000] (opLine S (nI i) (nI n)) = sgA (S.2.2.2.1.2.2.1.getD i []) n ∧ (opLine S (nI i) (nI n)).2.2 = S := by
  have hc : (nI i).toNatClampNeg = i := nI_clamp (by omega)
  unfold sgA
  by_cases h : n < (S.2.2.2.1.2.2.1.getD i []).length
  · rw [if_pos h]
    have h9 : (0 ≤ nI i ∧ nI i < nI S.2.2.2.1.2.2.1.length) ∧ 0 ≤ nI n ∧ nI n < nI (S.2.2.2.1.2.2.1.getD (nI i).toNatClampNeg []).length := by
      rw [hc]
      exact ⟨⟨nI_pos' (by omega), (nI_ltI (by omega) (by omega)).mpr hi⟩, nI_pos' (by omega), (nI_ltI (by omega) (by omega)).mpr h⟩
    have h8 := dv_lineI h9
    rw [hc] at h8 h9
    refine ⟨?_, h8.2⟩
    rw [h8.1]
    unfold atT
    rw [if_pos h9.2, nI_clamp (by omega)]
  · rw [if_neg h]
    refine dv_line (fun z => h ?_)
    rw [hc] at z
    exact (nI_ltI (by omega) (by omega)).mp z.2.2
section NIK
variable {l : Launch} {D : va_G} {tys : List (ClassId × FieldType)} {z0 : Nat} {A : Nat → Prop} {cC cI cJ cO cT cR : ClassId} {ad al a na : Nat → Nat} {xf : fS} {X : Nat → Nat → Int32} {Y : Nat → Nat → Int64} {S : aS}
set_option maxRecDepth 100000 in
set_option maxHeartbeats 16000000 in
theorem n_isKey (hT : lwT l tys cC cI cR cT cO cJ) (hF : fI z0 cI cO cT cR a na xf S) {i : Nat} (hi : i < S.2.2.2.1.2.1.length) (h20 : S.2.2.2.1.2.1.length ≤ 20) (hok : oks (S.2.2.2.1.2.1.getD i ([], 0)).1) (hl60 : (S.2.2.2.1.2.1.getD i ([], 0)).1.length ≤ 60) (hkw : ∀ w, w < 6 → kkw Y i w = wrd (S.2.2.2.1.2.1.getD i ([], 0)).1 w) : ct D tys z0 A (picL D cC cI cJ ad al A) l yL_isKey wsL_isKey ({ frames := 10, cells := 140, slots := 840, locals := 400 } : Room) [.ref (a 0), .int (nI i), .ref (al 1), .ref (al 2)] (xf, X, Y) (qI (picL D cC cI cJ ad al A) A (fun q x => ∃ x', x = (x', X, Y) ∧ q = 1 ∧ fI z0 cI cO cT cR a na x' S)) := by
  obtain ⟨hl, ht, ht1, ht3, ht4, ht5, ht6⟩ := hT
  have hkA : ∀ n, n < 1000 → _ := fun n hn => dv_keyA (S := S) (n := n) hi h20 hn hl60
  obtain ⟨nm, hnm⟩ : ∃ nm, (S.2.2.2.1.2.1.getD i ([], 0)).1 = nm := ⟨_, rfl⟩
  rw [hnm] at hok hl60 hkw hkA
  have h10 : ∀ k : Nat, (10 : Int32) * nI k = nI (10 * k) := fun k => nI_mul 10 k
  refine ct_of RL (by decide +kernel) rfl rfl (Nat.le_of_ble_eq_true rfl) ?_
  intro p e s m below meth c C hr hm
  refine v_lv (lv' := [(0, _), (1, _), (2, _), (3, _)]) rfl ?_
  refine v_iconst C dL_isKey_0 (v := 1) (by decide) ?_
  refine v_istore C dL_isKey_1 (by decide) (lv' := [(4, _), (0, _), (1, _), (2, _), (3, _)]) rfl ?_
  refine v_iconst C dL_isKey_3 (v := 0) (by decide) ?_
  refine v_istore C dL_isKey_4 (by decide) (lv' := [(5, _), (4, _), (0, _), (1, _), (2, _), (3, _)]) rfl ?_
  refine v_iconst C dL_isKey_6 (v := 0) (by decide) ?_
  refine v_istore C dL_isKey_7 (by decide) (lv' := [(6, _), (5, _), (4, _), (0, _), (1, _), (2, _), (3, _)]) rfl ?_
  obtain ⟨w, n, hw, hn, hw6, hnw⟩ : ∃ w n : Nat, w = 0 ∧ n = 0 ∧ w ≤ 6 ∧ n = min (10 * w) nm.length := ⟨0, 0, rfl, rfl, by decide, by simp⟩
  refine v_lv (lv' := [(6, .int (nI w)), (5, .int (nI n)), (4, .int 1), (0, _), (1, _), (2, _), (3, _)]) (by rw [hw, hn]; rfl) ?_
  refine v_kn (k' := 22 * w) (n' := 132 * w) (by first | exact Nat.le_refl _ | exact Nat.le_of_ble_eq_true rfl | omega | (dsimp only [rmL, rm0]; omega)) (by first | exact Nat.le_refl _ | exact Nat.le_of_ble_eq_true rfl | omega | (dsimp only [rmL, rm0]; omega)) ?_
  clear hw hn
  induction hd : (6 - w) using Nat.strongRecOn generalizing w n xf with | _ d ih =>
    refine v_iload C dL_isKey_9 (j := 0) rfl ?_
    refine v_bipush C dL_isKey_11 (v := 6) (by decide) ?_
    refine v_icmp_ge C 129 dL_isKey_13 (by decide) (fun c1 => ?_) (fun c1 => ?_)
    · skip
      have c2 : w = 6 := by have := le_of (a := 6) c1 (by decide) (by omega); omega
      refine v_iload C dL_isKey_129 (j := 2) rfl ?_
      refine v_if_eq C 153 dL_isKey_131 (by decide) (fun b1 => absurd b1 (by decide)) (fun b1 => ?_)
      refine v_aload_n C dL_isKey_134 (j := 3) rfl rfl ?_
      refine v_bipush C dL_isKey_135 (v := 8) (by decide) ?_
      refine v_iload_n C dL_isKey_137 (j := 4) rfl rfl ?_
      refine v_iload C dL_isKey_138 (j := 1) rfl ?_
      refine v_iconst C dL_isKey_140 (v := 0) (by decide) ?_
      refine l_cS C (D_key hl ht ht3 hF (nI i) (nI n) 0) (vx_cwSW 5 C.1.2.2.2.2 gL_isKey_L_does rfl rfl rfl (by decide +kernel) ⟨Nat.le_of_ble_eq_true rfl, Nat.le_of_ble_eq_true rfl⟩) rfl dL_isKey_141 (rest := []) (Nat.le_of_ble_eq_true rfl) rfl ⟨(by first | exact Nat.le_of_ble_eq_true rfl | (dsimp only [rmL, rm0]; omega)), (by first | exact Nat.le_of_ble_eq_true rfl | (dsimp only [rmL, rm0]; omega))⟩ (fun q x' hp => ?_)
      obtain ⟨x3, rfl, rfl, hF⟩ := hp
      have hv := hkA n (by omega)
      rw [hv.2] at hF
      rw [hv.1, show sgA nm n = -300000 from if_neg (by omega)]
      refine v_ldc C dL_isKey_144 (v := (-300000)) wwL_isKey_k47 ?_
      refine v_icmp_ne C 153 dL_isKey_146 (by decide) (fun b2 => absurd b2 (by decide)) (fun b2 => ?_)
      refine v_iconst C dL_isKey_149 (v := 1) (by decide) ?_
      refine v_goto C 154 dL_isKey_150 (by decide) ?_
      exact v_ireturn C dL_isKey_154 hr (rfl) (by dsimp only; omega) (by dsimp only; omega) (⟨x3, rfl, rfl, hF⟩)
    · skip
      have c2 : w < 6 := lt_ofn (a := 6) c1 (by decide) (by omega)
      refine v_iload C dL_isKey_16 (j := 2) rfl ?_
      refine v_if_eq C 129 dL_isKey_18 (by decide) (fun b1 => absurd b1 (by decide)) (fun b1 => ?_)
      refine v_lconst C dL_isKey_21 (v := 0) (by decide) ?_
      refine v_lstore C dL_isKey_22 (by decide) (lv' := [(7, _), (6, _), (5, _), (4, _), (0, _), (1, _), (2, _), (3, _)]) rfl ?_
      refine v_aload_n C dL_isKey_24 (j := 4) rfl rfl ?_
      refine v_bipush C dL_isKey_25 (v := 8) (by decide) ?_
      refine v_iload_n C dL_isKey_27 (j := 5) rfl rfl ?_
      refine v_iload C dL_isKey_28 (j := 2) rfl ?_
      refine v_iconst C dL_isKey_30 (v := 0) (by decide) ?_
      refine l_cS C (D_key hl ht ht3 hF (nI i) (nI n) 0) (vx_cwSW 5 C.1.2.2.2.2 gL_isKey_L_does rfl rfl rfl (by decide +kernel) ⟨Nat.le_of_ble_eq_true rfl, Nat.le_of_ble_eq_true rfl⟩) rfl dL_isKey_31 (rest := []) (Nat.le_of_ble_eq_true rfl) rfl ⟨(by first | exact Nat.le_of_ble_eq_true rfl | (dsimp only [rmL, rm0]; omega)), (by first | exact Nat.le_of_ble_eq_true rfl | (dsimp only [rmL, rm0]; omega))⟩ (fun q x' hp => ?_)
      obtain ⟨x3, rfl, rfl, hF⟩ := hp
      have hv := hkA n (by omega)
      rw [hv.2] at hF
      rw [hv.1]
      refine v_istore C dL_isKey_34 (by decide) (lv' := [(9, _), (7, _), (6, _), (5, _), (4, _), (0, _), (1, _), (2, _), (3, _)]) rfl ?_
      obtain ⟨k9, a9, hk9, ha9, hf, hkl, hk10, hkn⟩ : ∃ (k9 : Nat) (a9 : Int64), k9 = n ∧ a9 = 0 ∧ wrd nm w = ((nm.drop k9).take (10 * w + 10 - k9)).foldl (fun a c => a <<< (6 : Int64) ||| cod c) a9 ∧ k9 ≤ nm.length ∧ k9 ≤ 10 * w + 10 ∧ n ≤ k9 := ⟨n, 0, rfl, rfl, by
          unfold wrd pks
          by_cases z : 10 * w ≤ nm.length
          · rw [hnw, Nat.min_eq_left z, show 10 * w + 10 - 10 * w = 10 by omega]
          · rw [hnw, Nat.min_eq_right (by omega), List.drop_eq_nil_of_le (Nat.le_refl _), List.drop_eq_nil_of_le (by omega), List.take_nil, List.take_nil], by omega, by omega, Nat.le_refl _⟩
      refine v_sub [0, 3, 1, 2, 4, 5, 6, 7, 8] rfl ?_
      refine v_lv (lv' := [(9, .int (if k9 < 10 * w + 10 then sgA nm k9 else 0)), (5, .int (nI k9)), (7, .long a9), (6, .int (nI w)), (4, .int 1), (0, _), (1, _), (2, _), (3, _)]) (by rw [if_pos (by omega), hk9, ha9]; rfl) ?_
      refine v_kn (k' := 22 * w + (2 + 2 * (k9 - n))) (n' := 132 * w + (12 + 12 * (k9 - n))) (by first | exact Nat.le_refl _ | exact Nat.le_of_ble_eq_true rfl | omega | (dsimp only [rmL, rm0]; omega)) (by first | exact Nat.le_refl _ | exact Nat.le_of_ble_eq_true rfl | omega | (dsimp only [rmL, rm0]; omega)) ?_
      clear hk9 ha9
      induction hd2 : (10 * w + 10 - k9) using Nat.strongRecOn generalizing k9 a9 x3 with | _ d2 ih2 =>
        refine v_cut0 (pcj := 102) (lvj := [(5, .int (nI k9)), (7, .long a9), (6, .int (nI w)), (4, .int 1), (0, .ref (a 0)), (1, .int (nI i)), (2, .ref (al 1)), (3, .ref (al 2))]) (stj := []) (nm.length ≤ k9 ∨ 10 * w + 10 ≤ k9) (fun hw9 => ?_) (fun K => ?_)
        · skip
          have e1 : (nm.drop k9).take (10 * w + 10 - k9) = [] := by
              rcases hw9 with q | q
              · rw [List.drop_eq_nil_of_le q, List.take_nil]
              · rw [show 10 * w + 10 - k9 = 0 by omega, List.take_zero]
          rw [e1] at hf
          refine v_lload C dL_isKey_102 (j := 1) rfl ?_
          refine v_aload_n C dL_isKey_104 (j := 6) rfl rfl ?_
          refine v_aload_n C dL_isKey_105 (j := 7) rfl rfl ?_
          refine v_iload_n C dL_isKey_106 (j := 5) rfl rfl ?_
          refine v_iload C dL_isKey_107 (j := 2) rfl ?_
          refine v_cl (v_runS C (n_get ht6 (i := i) (w := w) (by omega) c2) (va_cwS 4 C.1.2.2.2.2 gL_isKey_L_get rfl rfl rfl (by decide +kernel) ⟨Nat.le_of_ble_eq_true rfl, Nat.le_of_ble_eq_true rfl⟩) rfl dL_isKey_109 (rest := [_]) (Nat.le_of_ble_eq_true rfl) rfl ⟨(by first | exact Nat.le_of_ble_eq_true rfl | (dsimp only [rmL, rm0]; omega)), (by first | exact Nat.le_of_ble_eq_true rfl | (dsimp only [rmL, rm0]; omega))⟩) (fun q x' hx' => ?_)
          obtain ⟨rfl, rfl⟩ := hx'
          rw [hkw w c2]
          refine v_lcmp C dL_isKey_112 ?_
          refine v_if_ne C 120 dL_isKey_113 (by decide) (fun b2 => absurd b2 (fun q => q ((lc_eq _ _).mpr hf.symm))) (fun b2 => ?_)
          refine v_iconst C dL_isKey_116 (v := 1) (by decide) ?_
          refine v_goto C 121 dL_isKey_117 (by decide) ?_
          refine v_istore C dL_isKey_121 (by decide) (lv' := [(4, _), (5, _), (7, _), (6, _), (0, _), (1, _), (2, _), (3, _)]) rfl ?_
          refine v_iinc C dL_isKey_123 (j := 3) (v := _ + 1) rfl rfl (by decide) (lv' := [(6, _), (4, _), (5, _), (7, _), (0, _), (1, _), (2, _), (3, _)]) rfl ?_
          refine v_goto C 9 dL_isKey_126 (by decide) ?_
          rw [nI_1]
          refine v_lv (lv' := [(6, .int (nI (w + 1))), (4, .int 1), (5, .int (nI k9)), (7, _), (0, _), (1, _), (2, _), (3, _)]) rfl ?_
          refine v_sub [0, 2, 1, 4, 5, 6, 7] rfl ?_
          refine v_kn (k' := 22 * (w + 1)) (n' := 132 * (w + 1)) (by first | exact Nat.le_refl _ | exact Nat.le_of_ble_eq_true rfl | omega | (dsimp only [rmL, rm0]; omega)) (by first | exact Nat.le_refl _ | exact Nat.le_of_ble_eq_true rfl | omega | (dsimp only [rmL, rm0]; omega)) ?_
          exact ih (6 - (w + 1)) (by omega) hF (w + 1) k9 (by omega) (by omega) rfl
        · skip
          refine v_iload C dL_isKey_36 (j := 0) rfl ?_
          refine v_if_le C 102 dL_isKey_38 (by decide) (fun c3 => ?_) (fun c3 => ?_)
          · skip
            refine v_sub [1, 2, 3, 4, 5, 6, 7, 8] rfl (K ?_)
            by_cases z1 : nm.length ≤ k9
            · exact Or.inl z1
            · by_cases z2 : 10 * w + 10 ≤ k9
              · exact Or.inr z2
              · rw [if_pos (by omega)] at c3
                unfold sgA at c3
                rw [if_pos (by omega)] at c3
                exact absurd c3 (al_pos _ (oks_getD hok (by omega)))
          · skip
            refine v_iload C dL_isKey_41 (j := 1) rfl ?_
            refine v_bipush C dL_isKey_43 (v := 10) (by decide) ?_
            refine v_iload C dL_isKey_45 (j := 3) rfl ?_
            refine v_imul C dL_isKey_47 ?_
            rw [h10]
            refine v_bipush C dL_isKey_48 (v := 10) (by decide) ?_
            refine v_iadd C dL_isKey_50 ?_
            refine v_int (b := nI (10 * w + 10)) (nI_add (10 * w) 10) ?_
            refine v_icmp_ge C 102 dL_isKey_51 (by decide) (fun c4 => ?_) (fun c4 => ?_)
            · skip
              exact v_sub [1, 2, 3, 4, 5, 6, 7, 8] rfl (K (Or.inr (le_of c4 (by omega) (by omega))))
            · skip
              have c5 : k9 < 10 * w + 10 := lt_ofn c4 (by omega) (by omega)
              have c6 : k9 < nm.length := by
                  refine Nat.lt_of_not_le (fun z => c3 ?_)
                  rw [if_pos c5]
                  unfold sgA
                  rw [if_neg (by omega)]
                  decide
              have e1 : (if k9 < 10 * w + 10 then sgA nm k9 else 0) = nm.getD k9 0 := by rw [if_pos c5]; unfold sgA; rw [if_pos c6]
              rw [e1]
              refine v_lload C dL_isKey_54 (j := 2) rfl ?_
              refine v_bipush C dL_isKey_56 (v := 6) (by decide) ?_
              refine v_lshl C dL_isKey_58 rfl ?_
              refine v_long (b := a9 <<< (6 : Int64)) (by rw [show ((6 : Int32).toInt64 &&& 63) = (6 : Int64) from by decide]) ?_
              refine v_iload C dL_isKey_59 (j := 0) rfl ?_
              refine v_cl (v_runS C (n_code (nm.getD k9 0)) (va_cwS 1 C.1.2.2.2.2 gL_isKey_L_code rfl rfl rfl (by decide +kernel) ⟨Nat.le_of_ble_eq_true rfl, Nat.le_of_ble_eq_true rfl⟩) rfl dL_isKey_61 (rest := [_]) (Nat.le_of_ble_eq_true rfl) rfl ⟨(by first | exact Nat.le_of_ble_eq_true rfl | (dsimp only [rmL, rm0]; omega)), (by first | exact Nat.le_of_ble_eq_true rfl | (dsimp only [rmL, rm0]; omega))⟩) (fun q x' hx' => ?_)
              obtain ⟨rfl, rfl⟩ := hx'
              refine v_lor C dL_isKey_64 ?_
              refine v_lstore C dL_isKey_65 (by decide) (lv' := [(7, _), (9, _), (5, _), (6, _), (4, _), (0, _), (1, _), (2, _), (3, _)]) rfl ?_
              refine v_iinc C dL_isKey_67 (j := 2) (v := _ + 1) rfl rfl (by decide) (lv' := [(5, _), (7, _), (9, _), (6, _), (4, _), (0, _), (1, _), (2, _), (3, _)]) rfl ?_
              refine v_iload C dL_isKey_70 (j := 0) rfl ?_
              refine v_bipush C dL_isKey_72 (v := 10) (by decide) ?_
              refine v_iload C dL_isKey_74 (j := 3) rfl ?_
              refine v_imul C dL_isKey_76 ?_
              rw [nI_1, h10]
              refine v_bipush C dL_isKey_77 (v := 10) (by decide) ?_
              refine v_iadd C dL_isKey_79 ?_
              refine v_int (b := nI (10 * w + 10)) (nI_add (10 * w) 10) ?_
              have hf2 : wrd nm w = ((nm.drop (k9 + 1)).take (10 * w + 10 - (k9 + 1))).foldl (fun a c => a <<< (6 : Int64) ||| cod c) (a9 <<< (6 : Int64) ||| cod (nm.getD k9 0)) := by rw [hf, dropc (0 : Int32) c6, show 10 * w + 10 - k9 = 10 * w + 10 - (k9 + 1) + 1 by omega]; rfl
              refine v_icmp_ge C 96 dL_isKey_80 (by decide) (fun c7 => ?_) (fun c7 => ?_)
              · skip
                have c8 := le_of c7 (by omega) (by omega)
                refine v_iconst C dL_isKey_96 (v := 0) (by decide) ?_
                refine v_istore C dL_isKey_97 (by decide) (lv' := [(9, _), (5, _), (7, _), (6, _), (4, _), (0, _), (1, _), (2, _), (3, _)]) rfl ?_
                refine v_goto C 36 dL_isKey_99 (by decide) ?_
                refine v_lv (lv' := [(9, .int (if k9 + 1 < 10 * w + 10 then sgA nm (k9 + 1) else 0)), (5, .int (nI (k9 + 1))), (7, .long (a9 <<< (6 : Int64) ||| cod (nm.getD k9 0))), (6, .int (nI w)), (4, .int 1), (0, _), (1, _), (2, _), (3, _)]) (by rw [if_neg (by omega)]) ?_
                refine v_kn (k' := 22 * w + (2 + 2 * (k9 + 1 - n))) (n' := 132 * w + (12 + 12 * (k9 + 1 - n))) (by first | exact Nat.le_refl _ | exact Nat.le_of_ble_eq_true rfl | omega | (dsimp only [rmL, rm0]; omega)) (by first | exact Nat.le_refl _ | exact Nat.le_of_ble_eq_true rfl | omega | (dsimp only [rmL, rm0]; omega)) ?_
                exact ih2 (10 * w + 10 - (k9 + 1)) (by omega) _ hF (k9 + 1) _ hf2 (by omega) (by omega) (by omega) rfl
              · skip
                have c8 := lt_ofn c7 (by omega) (by omega)
                refine v_aload_n C dL_isKey_83 (j := 5) rfl rfl ?_
                refine v_bipush C dL_isKey_84 (v := 8) (by decide) ?_
                refine v_iload_n C dL_isKey_86 (j := 6) rfl rfl ?_
                refine v_iload C dL_isKey_87 (j := 0) rfl ?_
                refine v_iconst C dL_isKey_89 (v := 0) (by decide) ?_
                refine l_cS C (D_key hl ht ht3 hF (nI i) (nI (k9 + 1)) 0) (vx_cwSW 5 C.1.2.2.2.2 gL_isKey_L_does rfl rfl rfl (by decide +kernel) ⟨Nat.le_of_ble_eq_true rfl, Nat.le_of_ble_eq_true rfl⟩) rfl dL_isKey_90 (rest := []) (Nat.le_of_ble_eq_true rfl) rfl ⟨(by first | exact Nat.le_of_ble_eq_true rfl | (dsimp only [rmL, rm0]; omega)), (by first | exact Nat.le_of_ble_eq_true rfl | (dsimp only [rmL, rm0]; omega))⟩ (fun q x' hp => ?_)
                obtain ⟨x4, rfl, rfl, hF4⟩ := hp
                have hv4 := hkA (k9 + 1) (by omega)
                rw [hv4.2] at hF4
                rw [hv4.1]
                refine v_goto C 97 dL_isKey_93 (by decide) ?_
                refine v_istore C dL_isKey_97 (by decide) (lv' := [(9, _), (5, _), (7, _), (6, _), (4, _), (0, _), (1, _), (2, _), (3, _)]) rfl ?_
                refine v_goto C 36 dL_isKey_99 (by decide) ?_
                refine v_lv (lv' := [(9, .int (if k9 + 1 < 10 * w + 10 then sgA nm (k9 + 1) else 0)), (5, .int (nI (k9 + 1))), (7, .long (a9 <<< (6 : Int64) ||| cod (nm.getD k9 0))), (6, .int (nI w)), (4, .int 1), (0, _), (1, _), (2, _), (3, _)]) (by rw [if_pos c8]) ?_
                refine v_kn (k' := 22 * w + (2 + 2 * (k9 + 1 - n))) (n' := 132 * w + (12 + 12 * (k9 + 1 - n))) (by first | exact Nat.le_refl _ | exact Nat.le_of_ble_eq_true rfl | omega | (dsimp only [rmL, rm0]; omega)) (by first | exact Nat.le_refl _ | exact Nat.le_of_ble_eq_true rfl | omega | (dsimp only [rmL, rm0]; omega)) ?_
                exact ih2 (10 * w + 10 - (k9 + 1)) (by omega) x4 hF4 (k9 + 1) _ hf2 (by omega) (by omega) (by omega) rfl
end NIK
