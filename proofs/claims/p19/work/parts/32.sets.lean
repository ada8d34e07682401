/-! ===== the law: a field set ===== -/

theorem e_sets (sep : Int32) (F : Nat → List Int32) (j : Nat) (hj : 1 ≤ j) : joinG sep F j = app60 (if j = 1 then [] else put60 (joinG sep F (j - 1)) sep) (F j) := by
  obtain ⟨m, rfl⟩ : ∃ m, j = m + 1 := ⟨j - 1, by omega⟩
  show app60 (if m = 0 then [] else put60 (joinG sep F m) sep) (F (m + 1)) = _
  by_cases h : m = 0
  · rw [if_pos h, if_pos (by omega)]
  · rw [if_neg h, if_neg (by omega)]; rfl
theorem nT_0 {X : Nat → Nat → Int32} {j : Nat} : nT j (va_up X j (upd (X j) (60 : Int32).toNatClampNeg 0)) [] := ⟨by rw [va_up_same, c60]; unfold upd; rw [if_pos rfl]; rfl, by decide, fun k hk => absurd hk (Nat.not_lt_zero k)⟩
theorem app60_0 {s : List Int32} (h : s.length ≤ 60) : app60 [] s = s := by unfold app60; rw [List.nil_append, List.take_of_length_le h]
section NS
variable {l : Launch} {D : va_G} {tys : List (ClassId × FieldType)} {z0 : Nat} {A : Nat → Prop} {σ0 : Type} {pic0 : σ0 → Heap → Prop} {cI cJ : ClassId} {ad al : Nat → Nat} {y0 : σ0} {X : Nat → Nat → Int32} {Y : Nat → Nat → Int64} {sep : Int32} {r v : List Int32}
set_option maxRecDepth 100000 in
set_option maxHeartbeats 8000000 in
theorem n_sets (ht1 : tys[1]? = some (cI, .int)) (hR : nT 0 X r) (hv : nT 1 X v) (hg : X 5 0 = sep) {its : Nat} (hk : its ≤ 12) : ct D tys z0 A (picN pic0 cI cJ ad al A) l yL_sets wsL_sets (rmL 2 49) [.ref (ad 0), .ref (ad 1), .ref (ad 2), .ref (ad 5), .int (nI its)] (y0, X, Y) (qV (picN pic0 cI cJ ad al A) A (fun x => ∃ X', x = (y0, X', Y) ∧ nT 0 X' (setR sep r its v) ∧ ich [0, 2] X X')) := by
  have hn := nfd_le sep r
  have hv60 := hv.2.1
  refine ct_of RL (by decide +kernel) rfl rfl (Nat.le_of_ble_eq_true rfl) ?_
  intro p e s m below meth c C hr hm
  refine v_lv (lv' := [(0, _), (1, _), (2, _), (3, _), (4, _)]) rfl ?_
  refine v_aload_n C dL_sets_0 (j := 2) rfl rfl ?_
  refine v_bipush C dL_sets_1 (v := 60) (by decide) ?_
  refine v_iconst C dL_sets_3 (v := 0) (by decide) ?_
  refine v_iast C dL_sets_4 1 ht1 (by unfold vp_in; decide) (N_st (j := 2) (by decide) _) ?_
  obtain ⟨X1, hX1, c0, m0⟩ : ∃ X1, X1 = va_up X 2 (upd (X 2) (60 : Int32).toNatClampNeg 0) ∧ ich [2] X X1 ∧ nT 2 X1 [] := ⟨_, rfl, ich_u (by decide) _, nT_0⟩
  rw [← hX1]
  clear hX1
  refine v_aload_n C dL_sets_5 (j := 0) rfl rfl ?_
  refine v_aload_n C dL_sets_6 (j := 3) rfl rfl ?_
  refine v_ci (v_runS C (n_fields ht1 (hR.ch c0 (by decide)) ((congrFun (c0 5 (by decide)) 0).trans hg)) (va_cwS 2 C.1.2.2.2.2 gL_sets_L_fields rfl rfl rfl (by decide +kernel) ⟨Nat.le_of_ble_eq_true rfl, Nat.le_of_ble_eq_true rfl⟩) rfl dL_sets_7 (rest := []) (Nat.le_of_ble_eq_true rfl) rfl ⟨(by first | exact Nat.le_of_ble_eq_true rfl | (dsimp only; omega)), (by first | exact Nat.le_of_ble_eq_true rfl | (dsimp only; omega))⟩) (fun q x' hx' => ?_)
  obtain ⟨rfl, rfl⟩ := hx'
  refine v_istore C dL_sets_10 (by decide) (lv' := [(5, _), (0, _), (1, _), (2, _), (3, _), (4, _)]) rfl ?_
  refine v_cutX (pcj := 27) (fun w : (Nat → Nat → Int32) => (y0, w, Y)) (fun _ => [(5, .int (nI (nfd sep r))), (0, .ref (ad 0)), (1, .ref (ad 1)), (2, .ref (ad 2)), (3, .ref (ad 5)), (4, .int (nI its))]) (fun _ => []) (fun w => ich [2] X w ∧ nT 2 w (if its = 0 then v else [])) (fun w hw => ?_) (fun K => ?_)
  · skip
    obtain ⟨w1, w2⟩ := hw
    refine v_iconst C dL_sets_27 (v := 1) (by decide) ?_
    refine v_istore C dL_sets_28 (by decide) (lv' := [(6, _), (5, _), (0, _), (1, _), (2, _), (3, _), (4, _)]) rfl ?_
    obtain ⟨j, hj, hj1, hm⟩ : ∃ j : Nat, j = 1 ∧ 1 ≤ j ∧ nT 2 w (if its = 0 then v else joinG sep (va_up (fld sep r) its v) (j - 1)) := ⟨1, rfl, Nat.le_refl _, by by_cases hz : its = 0; rw [if_pos hz] at w2 ⊢; exact w2; rw [if_neg hz] at w2 ⊢; exact w2⟩
    refine v_lv (lv' := [(6, .int (nI j)), (5, _), (0, _), (1, _), (2, _), (3, _), (4, _)]) (by rw [hj]; rfl) ?_
    have hjl : j ≤ 13 ∧ j ≤ max (nfd sep r) its + 1 := by omega
    clear hj w2
    induction hd : (13 - j) using Nat.strongRecOn generalizing w j with | _ d ih =>
      have hRw := hR.ch w1 (by decide)
      have hvw := hv.ch w1 (by decide)
      have hgw : w 5 0 = sep := by rw [w1 5 (by decide)]; exact hg
      refine v_cut0 (pcj := 109) (lvj := [(0, .ref (ad 0)), (1, .ref (ad 1)), (2, .ref (ad 2))]) (stj := []) (its = 0 ∨ j = max (nfd sep r) its + 1) (fun hw => ?_) (fun K2 => ?_)
      · skip
        have e9 : (if its = 0 then v else joinG sep (va_up (fld sep r) its v) (j - 1)) = setR sep r its v := by
            unfold setR
            by_cases hz : its = 0
            · rw [if_pos hz, if_pos hz]
            · rw [if_neg hz, if_neg hz]
              rcases hw with q | q
              · exact absurd q hz
              · rw [q, Nat.add_sub_cancel]
        rw [e9] at hm
        refine v_aload_n C dL_sets_109 (j := 0) rfl rfl ?_
        refine v_bipush C dL_sets_110 (v := 60) (by decide) ?_
        refine v_iconst C dL_sets_112 (v := 0) (by decide) ?_
        refine v_iast C dL_sets_113 1 ht1 (by unfold vp_in; decide) (N_st (j := 0) (by decide) _) ?_
        obtain ⟨X3, hX3, c3, m3⟩ : ∃ X3, X3 = va_up w 0 (upd (w 0) (60 : Int32).toNatClampNeg 0) ∧ ich [0] w X3 ∧ nT 0 X3 [] := ⟨_, rfl, ich_u (by decide) _, nT_0⟩
        rw [← hX3]
        clear hX3
        have hm3 := hm.ch c3 (by decide)
        refine v_aload_n C dL_sets_114 (j := 2) rfl rfl ?_
        refine v_iconst C dL_sets_115 (v := 0) (by decide) ?_
        refine v_aload_n C dL_sets_116 (j := 2) rfl rfl ?_
        refine v_bipush C dL_sets_117 (v := 60) (by decide) ?_
        refine v_iald C dL_sets_119 1 ht1 (N_t (j := 2) (by decide)) (by unfold vp_in; decide) ?_
        refine v_int (b := nI (setR sep r its v).length) hm3.1 ?_
        refine v_aload_n C dL_sets_120 (j := 0) rfl rfl ?_
        refine v_cv (v_runS C (n_copies (i := 2) (j := 0) ht1 (by decide) (by decide) (by decide) hm3 (str_all _) m3) (va_cwS 4 C.1.2.2.2.2 gL_sets_L_copies rfl rfl rfl (by decide +kernel) ⟨Nat.le_of_ble_eq_true rfl, Nat.le_of_ble_eq_true rfl⟩) rfl dL_sets_121 (rest := []) (Nat.le_of_ble_eq_true rfl) rfl ⟨(by first | exact Nat.le_of_ble_eq_true rfl | (dsimp only; omega)), (by first | exact Nat.le_of_ble_eq_true rfl | (dsimp only; omega))⟩) (fun x' hx' => ?_)
        obtain ⟨X4, rfl, g1, g2⟩ := hx'
        rw [app60_0 hm3.2.1] at g1
        exact v_return C dL_sets_124 hr (Nat.le_of_ble_eq_true rfl) (Nat.le_of_ble_eq_true rfl) (⟨X4, rfl, g1, (w1.mo (by decide)).tr ((c3.mo (by decide)).tr (g2.mo (by decide)))⟩)
      · skip
        refine v_iload C dL_sets_30 (j := 6) rfl ?_
        refine v_if_le C 109 dL_sets_32 (by decide) (fun c1 => ?_) (fun c1 => ?_)
        · skip
          exact v_sub [2, 3, 4] rfl (K2 (Or.inl (by have := (nI_leI (a := its) (b := 0) (by omega) (by decide)).mp c1; omega)))
        · skip
          have hz : its ≠ 0 := fun z => c1 (by rw [z]; exact Int32.le_refl _)
          rw [if_neg hz] at hm
          refine v_cut0 (pcj := 49) (lvj := [(6, .int (nI j)), (5, .int (nI (nfd sep r))), (0, .ref (ad 0)), (1, .ref (ad 1)), (2, .ref (ad 2)), (3, .ref (ad 5)), (4, .int (nI its))]) (stj := []) (j ≤ max (nfd sep r) its) (fun c2 => ?_) (fun K5 => ?_)
          · skip
            refine v_cutX (pcj := 62) (fun w : (Nat → Nat → Int32) => (y0, w, Y)) (fun _ => [(6, .int (nI j)), (5, .int (nI (nfd sep r))), (0, .ref (ad 0)), (1, .ref (ad 1)), (2, .ref (ad 2)), (3, .ref (ad 5)), (4, .int (nI its))]) (fun _ => []) (fun w => ich [2] X w ∧ nT 2 w (if j = 1 then [] else put60 (joinG sep (va_up (fld sep r) its v) (j - 1)) sep)) (fun X5 hw => ?_) (fun K3 => ?_)
            · skip
              obtain ⟨w3, w4⟩ := hw
              have hR5 := hR.ch w3 (by decide)
              have hv5 := hv.ch w3 (by decide)
              have hg5 : X5 5 0 = sep := by rw [w3 5 (by decide)]; exact hg
              refine v_cutX (pcj := 103) (fun w : (Nat → Nat → Int32) => (y0, w, Y)) (fun _ => [(6, .int (nI j)), (5, .int (nI (nfd sep r))), (0, .ref (ad 0)), (1, .ref (ad 1)), (2, .ref (ad 2)), (3, .ref (ad 5)), (4, .int (nI its))]) (fun _ => []) (fun w => ich [2] X w ∧ nT 2 w (joinG sep (va_up (fld sep r) its v) j)) (fun X6 hw => ?_) (fun K4 => ?_)
              · skip
                obtain ⟨w5, w6⟩ := hw
                refine v_iinc C dL_sets_103 (j := 0) (v := _ + 1) rfl rfl (by decide) (lv' := [(6, _), (5, _), (0, _), (1, _), (2, _), (3, _), (4, _)]) rfl ?_
                refine v_goto C 30 dL_sets_106 (by decide) ?_
                rw [nI_1]
                exact ih (13 - (j + 1)) (by omega) X6 w5 (j + 1) (by omega) (by rw [if_neg hz, Nat.add_sub_cancel]; exact w6) (by omega) rfl
              · skip
                refine v_iload C dL_sets_62 (j := 0) rfl ?_
                refine v_iload C dL_sets_64 (j := 6) rfl ?_
                refine v_icmp_ne C 82 dL_sets_66 (by decide) (fun c4 => ?_) (fun c4 => ?_)
                · skip
                  have hji : j ≠ its := fun z => c4 (by rw [z])
                  refine v_aload_n C dL_sets_82 (j := 2) rfl rfl ?_
                  refine v_aload_n C dL_sets_83 (j := 2) rfl rfl ?_
                  refine v_aload_n C dL_sets_84 (j := 5) rfl rfl ?_
                  refine v_iload C dL_sets_85 (j := 0) rfl ?_
                  refine v_iconst C dL_sets_87 (v := 0) (by decide) ?_
                  refine v_ci (v_runS C (n_edB ht1 hR5 hg5 (k := j) (by omega)) (va_cwS 4 C.1.2.2.2.2 gL_sets_L_edge rfl rfl rfl (by decide +kernel) ⟨Nat.le_of_ble_eq_true rfl, Nat.le_of_ble_eq_true rfl⟩) rfl dL_sets_88 (rest := [_]) (Nat.le_of_ble_eq_true rfl) rfl ⟨(by first | exact Nat.le_of_ble_eq_true rfl | (dsimp only; omega)), (by first | exact Nat.le_of_ble_eq_true rfl | (dsimp only; omega))⟩) (fun q x' hx' => ?_)
                  obtain ⟨rfl, rfl⟩ := hx'
                  refine v_aload_n C dL_sets_91 (j := 2) rfl rfl ?_
                  refine v_aload_n C dL_sets_92 (j := 5) rfl rfl ?_
                  refine v_iload C dL_sets_93 (j := 0) rfl ?_
                  refine v_iconst C dL_sets_95 (v := 1) (by decide) ?_
                  refine v_ci (v_runS C (n_edE ht1 hR5 hg5 (k := j) (by omega)) (va_cwS 4 C.1.2.2.2.2 gL_sets_L_edge rfl rfl rfl (by decide +kernel) ⟨Nat.le_of_ble_eq_true rfl, Nat.le_of_ble_eq_true rfl⟩) rfl dL_sets_96 (rest := [_, _]) (Nat.le_of_ble_eq_true rfl) rfl ⟨(by first | exact Nat.le_of_ble_eq_true rfl | (dsimp only; omega)), (by first | exact Nat.le_of_ble_eq_true rfl | (dsimp only; omega))⟩) (fun q x' hx' => ?_)
                  obtain ⟨rfl, rfl⟩ := hx'
                  refine v_aload_n C dL_sets_99 (j := 4) rfl rfl ?_
                  refine v_cv (v_runS C (n_copies (i := 0) (j := 2) ht1 (by decide) (by decide) (by decide) hR5 (eS sep r j) w4) (va_cwS 4 C.1.2.2.2.2 gL_sets_L_copies rfl rfl rfl (by decide +kernel) ⟨Nat.le_of_ble_eq_true rfl, Nat.le_of_ble_eq_true rfl⟩) rfl dL_sets_100 (rest := []) (Nat.le_of_ble_eq_true rfl) rfl ⟨(by first | exact Nat.le_of_ble_eq_true rfl | (dsimp only; omega)), (by first | exact Nat.le_of_ble_eq_true rfl | (dsimp only; omega))⟩) (fun x' hx' => ?_)
                  obtain ⟨X4, rfl, g1, g2⟩ := hx'
                  exact K4 X4 ⟨w3.tr g2, by rw [e_sets _ _ j hj1, va_up_other _ _ _ hji]; exact g1⟩
                · skip
                  have hji : j = its := by have := congrArg Int32.toNatClampNeg c4; rw [nI_clamp (by omega), nI_clamp (by omega)] at this; exact this
                  refine v_aload_n C dL_sets_69 (j := 3) rfl rfl ?_
                  refine v_iconst C dL_sets_70 (v := 0) (by decide) ?_
                  refine v_aload_n C dL_sets_71 (j := 3) rfl rfl ?_
                  refine v_bipush C dL_sets_72 (v := 60) (by decide) ?_
                  refine v_iald C dL_sets_74 1 ht1 (N_t (j := 1) (by decide)) (by unfold vp_in; decide) ?_
                  refine v_int (b := nI v.length) hv5.1 ?_
                  refine v_aload_n C dL_sets_75 (j := 4) rfl rfl ?_
                  refine v_cv (v_runS C (n_copies (i := 1) (j := 2) ht1 (by decide) (by decide) (by decide) hv5 (str_all _) w4) (va_cwS 4 C.1.2.2.2.2 gL_sets_L_copies rfl rfl rfl (by decide +kernel) ⟨Nat.le_of_ble_eq_true rfl, Nat.le_of_ble_eq_true rfl⟩) rfl dL_sets_76 (rest := []) (Nat.le_of_ble_eq_true rfl) rfl ⟨(by first | exact Nat.le_of_ble_eq_true rfl | (dsimp only; omega)), (by first | exact Nat.le_of_ble_eq_true rfl | (dsimp only; omega))⟩) (fun x' hx' => ?_)
                  obtain ⟨X4, rfl, g1, g2⟩ := hx'
                  refine v_goto C 103 dL_sets_79 (by decide) ?_
                  exact K4 X4 ⟨w3.tr g2, by rw [e_sets _ _ j hj1, show va_up (fld sep r) its v j = v by rw [hji, va_up_same]]; exact g1⟩
            · skip
              refine v_iload C dL_sets_49 (j := 0) rfl ?_
              refine v_iconst C dL_sets_51 (v := 1) (by decide) ?_
              refine v_icmp_le C 62 dL_sets_52 (by decide) (fun c4 => ?_) (fun c4 => ?_)
              · skip
                have hj9 : j = 1 := by have := (nI_leI (a := j) (b := 1) (by omega) (by decide)).mp c4; omega
                exact K3 w ⟨w1, by rw [if_pos hj9]; rw [hj9] at hm; exact hm⟩
              · skip
                have hj9 : j ≠ 1 := fun z => c4 (by rw [z]; exact Int32.le_refl _)
                refine v_aload_n C dL_sets_55 (j := 4) rfl rfl ?_
                refine v_aload_n C dL_sets_56 (j := 5) rfl rfl ?_
                refine v_iconst C dL_sets_57 (v := 0) (by decide) ?_
                refine v_iald C dL_sets_58 1 ht1 N_g (by unfold vp_in; decide) ?_
                refine v_int (b := sep) hgw ?_
                refine v_cv (v_runS C (n_puts (j := 2) ht1 (by decide) hm sep) (va_cwS 2 C.1.2.2.2.2 gL_sets_L_puts rfl rfl rfl (by decide +kernel) ⟨Nat.le_of_ble_eq_true rfl, Nat.le_of_ble_eq_true rfl⟩) rfl dL_sets_59 (rest := []) (Nat.le_of_ble_eq_true rfl) rfl ⟨(by first | exact Nat.le_of_ble_eq_true rfl | (dsimp only; omega)), (by first | exact Nat.le_of_ble_eq_true rfl | (dsimp only; omega))⟩) (fun x' hx' => ?_)
                obtain ⟨X4, rfl, g1, g2⟩ := hx'
                exact K3 X4 ⟨w1.tr g2, by rw [if_neg hj9]; exact g1⟩
          · skip
            refine v_iload C dL_sets_35 (j := 0) rfl ?_
            refine v_iload C dL_sets_37 (j := 1) rfl ?_
            refine v_icmp_le C 49 dL_sets_39 (by decide) (fun c2 => ?_) (fun c2 => ?_)
            · skip
              exact K5 (by have := le_of c2 (by omega) (by omega); omega)
            · skip
              have c3 := lt_ofn c2 (by omega) (by omega)
              refine v_iload C dL_sets_42 (j := 0) rfl ?_
              refine v_iload C dL_sets_44 (j := 6) rfl ?_
              refine v_icmp_gt C 109 dL_sets_46 (by decide) (fun c5 => ?_) (fun c5 => ?_)
              · skip
                exact v_sub [2, 3, 4] rfl (K2 (Or.inr (by have := lt_of c5 (by omega) (by omega); omega)))
              · skip
                exact K5 (by have := le_ofn c5 (by omega) (by omega); omega)
  · skip
    refine v_iload C dL_sets_12 (j := 5) rfl ?_
    refine v_if_ne C 27 dL_sets_14 (by decide) (fun c1 => ?_) (fun c1 => ?_)
    · skip
      have hz : its ≠ 0 := fun z => c1 (by rw [z]; rfl)
      exact K X1 ⟨c0, by rw [if_neg hz]; exact m0⟩
    · skip
      have hz : its = 0 := by have := congrArg Int32.toNatClampNeg c1; rw [nI_clamp (by omega)] at this; exact this
      refine v_aload_n C dL_sets_17 (j := 2) rfl rfl ?_
      refine v_iconst C dL_sets_18 (v := 0) (by decide) ?_
      refine v_aload_n C dL_sets_19 (j := 2) rfl rfl ?_
      refine v_bipush C dL_sets_20 (v := 60) (by decide) ?_
      refine v_iald C dL_sets_22 1 ht1 (N_t (j := 1) (by decide)) (by unfold vp_in; decide) ?_
      refine v_int (b := nI v.length) (hv.ch c0 (by decide)).1 ?_
      refine v_aload_n C dL_sets_23 (j := 3) rfl rfl ?_
      refine v_cv (v_runS C (n_copies (i := 1) (j := 2) ht1 (by decide) (by decide) (by decide) (hv.ch c0 (by decide)) (str_all _) m0) (va_cwS 4 C.1.2.2.2.2 gL_sets_L_copies rfl rfl rfl (by decide +kernel) ⟨Nat.le_of_ble_eq_true rfl, Nat.le_of_ble_eq_true rfl⟩) rfl dL_sets_24 (rest := []) (Nat.le_of_ble_eq_true rfl) rfl ⟨(by first | exact Nat.le_of_ble_eq_true rfl | (dsimp only; omega)), (by first | exact Nat.le_of_ble_eq_true rfl | (dsimp only; omega))⟩) (fun x' hx' => ?_)
      obtain ⟨X4, rfl, g1, g2⟩ := hx'
      rw [app60_0 hv60] at g1
      exact K X4 ⟨c0.tr g2, by rw [if_pos hz]; exact g1⟩
end NS
