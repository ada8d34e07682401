/-! ===== the law: the rows, the last line ===== -/
theorem wwL_areRows_k47 : Cond.constant RL 47 (-300000) ∈ wsL_areRows := by decide +kernel
theorem wwL_areRows_k113 : Cond.constantLong RL 113 (17) ∈ wsL_areRows := by decide +kernel
theorem wwL_areRows_k115 : Cond.constantLong RL 115 (1000003) ∈ wsL_areRows := by decide +kernel
section NAR
variable {l : Launch} {D : va_G} {tys : List (ClassId × FieldType)} {z0 : Nat} {A : Nat → Prop} {cC cI cJ cO cT cR : ClassId} {ad al a na : Nat → Nat} {xf : fS} {X : Nat → Nat → Int32} {Y : Nat → Nat → Int64} {S : aS}
set_option maxRecDepth 100000 in
set_option maxHeartbeats 16000000 in
theorem n_areRows (hT : lwT l tys cC cI cR cT cO cJ) (hF : fI z0 cI cO cT cR a na xf S) (hA : nA X Y S) (hk : okS S) : ct D tys z0 A (picL D cC cI cJ ad al A) l yL_areRows wsL_areRows ({ frames := 11, cells := 3000, slots := 18000, locals := 500 } : Room) [.ref (a 0), .ref (ad 5), .ref (ad 6), .ref (al 1), .ref (al 2), .ref (al 3)] (xf, X, Y) (qI (picL D cC cI cJ ad al A) A (fun q x => ∃ x', x = (x', X, Y) ∧ q = 1 ∧ fI z0 cI cO cT cR a na x' S)) := by
  have hT0 := hT
  obtain ⟨hl, ht, ht1, ht3, ht4, ht5, ht6⟩ := hT
  obtain ⟨⟨e0, e1, e3, eR⟩, eT, ⟨w4, w20, wr⟩, ⟨l5, l40, ll⟩, e2⟩ := hA
  have hkR := hk.2.2.2.2.1
  have hkL := hk.2.2.2.2.2.2
  refine ct_of RL (by decide +kernel) rfl rfl (Nat.le_of_ble_eq_true rfl) ?_
  intro p e s m below meth c C hr hm
  refine v_lv (lv' := [(0, _), (1, _), (2, _), (3, _), (4, _), (5, _)]) rfl ?_
  refine v_aload_n C dL_areRows_0 (j := 0) rfl rfl ?_
  refine l_iF C (ci := 11) (F_rows hF) (cwV 0 C.1.2.2.2.2 gL_areRows_X11_rows rfl rfl rfl (by decide +kernel) ⟨Nat.le_of_ble_eq_true rfl, Nat.le_of_ble_eq_true rfl⟩) rfl rfl hF.gC dL_areRows_1 (rest := []) (Nat.le_of_ble_eq_true rfl) rfl ⟨(by first | exact Nat.le_of_ble_eq_true rfl | (dsimp only [rmL, rm0]; omega)), (by first | exact Nat.le_of_ble_eq_true rfl | (dsimp only [rmL, rm0]; omega))⟩ (fun q x1 hp => ?_)
  obtain ⟨rfl, hF⟩ := hp
  replace hF : fI z0 cI cO cT cR a na x1 S := hF
  refine v_aload_n C dL_areRows_4 (j := 1) rfl rfl ?_
  refine v_iconst C dL_areRows_5 (v := 4) (by decide) ?_
  refine v_iald C dL_areRows_6 1 ht1 N_g (by unfold vp_in; decide) ?_
  refine v_icmp_ne C 70 dL_areRows_7 (by decide) (fun b1 => absurd b1 (fun q => q w4.symm)) (fun b1 => ?_)
  refine v_aload_n C dL_areRows_10 (j := 0) rfl rfl ?_
  refine l_iF C (ci := 11) (F_lines hF) (cwV 0 C.1.2.2.2.2 gL_areRows_X11_lines rfl rfl rfl (by decide +kernel) ⟨Nat.le_of_ble_eq_true rfl, Nat.le_of_ble_eq_true rfl⟩) rfl rfl hF.gC dL_areRows_11 (rest := []) (Nat.le_of_ble_eq_true rfl) rfl ⟨(by first | exact Nat.le_of_ble_eq_true rfl | (dsimp only [rmL, rm0]; omega)), (by first | exact Nat.le_of_ble_eq_true rfl | (dsimp only [rmL, rm0]; omega))⟩ (fun q x2 hp => ?_)
  obtain ⟨rfl, hF⟩ := hp
  replace hF : fI z0 cI cO cT cR a na x2 S := hF
  refine v_aload_n C dL_areRows_14 (j := 1) rfl rfl ?_
  refine v_iconst C dL_areRows_15 (v := 5) (by decide) ?_
  refine v_iald C dL_areRows_16 1 ht1 N_g (by unfold vp_in; decide) ?_
  refine v_icmp_ne C 70 dL_areRows_17 (by decide) (fun b2 => absurd b2 (fun q => q l5.symm)) (fun b2 => ?_)
  refine v_aload_n C dL_areRows_20 (j := 0) rfl rfl ?_
  refine v_bipush C dL_areRows_21 (v := 7) (by decide) ?_
  refine v_aload_n C dL_areRows_23 (j := 1) rfl rfl ?_
  refine v_iconst C dL_areRows_24 (v := 4) (by decide) ?_
  refine v_iald C dL_areRows_25 1 ht1 N_g (by unfold vp_in; decide) ?_
  refine v_int (b := nI S.2.2.2.1.2.1.length) w4 ?_
  refine v_iconst C dL_areRows_26 (v := 0) (by decide) ?_
  refine v_iconst C dL_areRows_27 (v := 0) (by decide) ?_
  refine l_cS C (D_row hl ht3 hF (nI S.2.2.2.1.2.1.length) 0 0) (vx_cwSW 5 C.1.2.2.2.2 gL_areRows_L_does rfl rfl rfl (by decide +kernel) ⟨Nat.le_of_ble_eq_true rfl, Nat.le_of_ble_eq_true rfl⟩) rfl dL_areRows_28 (rest := []) (Nat.le_of_ble_eq_true rfl) rfl ⟨(by first | exact Nat.le_of_ble_eq_true rfl | (dsimp only [rmL, rm0]; omega)), (by first | exact Nat.le_of_ble_eq_true rfl | (dsimp only [rmL, rm0]; omega))⟩ (fun q x' hp => ?_)
  obtain ⟨x3, rfl, rfl, hF⟩ := hp
  have hv3 := dv_row (S := S) (z := nI S.2.2.2.1.2.1.length) (fun z => Int32.lt_irrefl z.2)
  rw [hv3.2] at hF
  rw [hv3.1]
  refine v_ldc C dL_areRows_31 (v := (-300000)) wwL_areRows_k47 ?_
  refine v_icmp_ne C 70 dL_areRows_33 (by decide) (fun b3 => absurd b3 (by decide)) (fun b3 => ?_)
  refine v_aload_n C dL_areRows_36 (j := 0) rfl rfl ?_
  refine v_bipush C dL_areRows_37 (v := 8) (by decide) ?_
  refine v_iconst C dL_areRows_39 (v := (-1)) (by decide) ?_
  refine v_iconst C dL_areRows_40 (v := 0) (by decide) ?_
  refine v_iconst C dL_areRows_41 (v := 0) (by decide) ?_
  refine l_cS C (D_key hl ht ht3 hF (-1) 0 0) (vx_cwSW 5 C.1.2.2.2.2 gL_areRows_L_does rfl rfl rfl (by decide +kernel) ⟨Nat.le_of_ble_eq_true rfl, Nat.le_of_ble_eq_true rfl⟩) rfl dL_areRows_42 (rest := []) (Nat.le_of_ble_eq_true rfl) rfl ⟨(by first | exact Nat.le_of_ble_eq_true rfl | (dsimp only [rmL, rm0]; omega)), (by first | exact Nat.le_of_ble_eq_true rfl | (dsimp only [rmL, rm0]; omega))⟩ (fun q x' hp => ?_)
  obtain ⟨x4, rfl, rfl, hF⟩ := hp
  have hv4 := dv_key (S := S) (z := -1) (p0 := 0) (fun z => absurd z.1.1 (by decide))
  rw [hv4.2] at hF
  rw [hv4.1]
  refine v_ldc C dL_areRows_45 (v := (-300000)) wwL_areRows_k47 ?_
  refine v_icmp_ne C 70 dL_areRows_47 (by decide) (fun b4 => absurd b4 (by decide)) (fun b4 => ?_)
  refine v_aload_n C dL_areRows_50 (j := 0) rfl rfl ?_
  refine v_bipush C dL_areRows_51 (v := 9) (by decide) ?_
  refine v_aload_n C dL_areRows_53 (j := 1) rfl rfl ?_
  refine v_iconst C dL_areRows_54 (v := 5) (by decide) ?_
  refine v_iald C dL_areRows_55 1 ht1 N_g (by unfold vp_in; decide) ?_
  refine v_int (b := nI S.2.2.2.1.2.2.1.length) l5 ?_
  refine v_iconst C dL_areRows_56 (v := 0) (by decide) ?_
  refine v_iconst C dL_areRows_57 (v := 0) (by decide) ?_
  refine l_cS C (D_line hl ht ht4 hF (nI S.2.2.2.1.2.2.1.length) 0 0) (vx_cwSW 5 C.1.2.2.2.2 gL_areRows_L_does rfl rfl rfl (by decide +kernel) ⟨Nat.le_of_ble_eq_true rfl, Nat.le_of_ble_eq_true rfl⟩) rfl dL_areRows_58 (rest := []) (Nat.le_of_ble_eq_true rfl) rfl ⟨(by first | exact Nat.le_of_ble_eq_true rfl | (dsimp only [rmL, rm0]; omega)), (by first | exact Nat.le_of_ble_eq_true rfl | (dsimp only [rmL, rm0]; omega))⟩ (fun q x' hp => ?_)
  obtain ⟨x5, rfl, rfl, hF⟩ := hp
  have hv5 := dv_line (S := S) (z := nI S.2.2.2.1.2.2.1.length) (p0 := 0) (fun z => Int32.lt_irrefl z.1.2)
  rw [hv5.2] at hF
  rw [hv5.1]
  refine v_ldc C dL_areRows_61 (v := (-300000)) wwL_areRows_k47 ?_
  refine v_icmp_ne C 70 dL_areRows_63 (by decide) (fun b5 => absurd b5 (by decide)) (fun b5 => ?_)
  refine v_iconst C dL_areRows_66 (v := 1) (by decide) ?_
  refine v_goto C 71 dL_areRows_67 (by decide) ?_
  refine v_istore C dL_areRows_71 (by decide) (lv' := [(6, _), (0, _), (1, _), (2, _), (3, _), (4, _), (5, _)]) rfl ?_
  refine v_iconst C dL_areRows_73 (v := 0) (by decide) ?_
  refine v_istore C dL_areRows_74 (by decide) (lv' := [(7, _), (6, _), (0, _), (1, _), (2, _), (3, _), (4, _), (5, _)]) rfl ?_
  obtain ⟨j, hj, hjl⟩ : ∃ j : Nat, j = 0 ∧ j ≤ S.2.2.2.1.2.1.length := ⟨0, rfl, Nat.zero_le _⟩
  refine v_lv (lv' := [(7, .int (nI j)), (6, .int 1), (0, _), (1, _), (2, _), (3, _), (4, _), (5, _)]) (by rw [hj]; rfl) ?_
  refine v_kn (k' := 5 + 141 * j) (n' := 30 + 846 * j) (by first | exact Nat.le_refl _ | exact Nat.le_of_ble_eq_true rfl | omega | (dsimp only [rmL, rm0]; omega)) (by first | exact Nat.le_refl _ | exact Nat.le_of_ble_eq_true rfl | omega | (dsimp only [rmL, rm0]; omega)) ?_
  clear hj
  induction hd : (S.2.2.2.1.2.1.length - j) using Nat.strongRecOn generalizing j x5 with | _ d ih =>
    refine v_iload C dL_areRows_76 (j := 0) rfl ?_
    refine v_aload_n C dL_areRows_78 (j := 3) rfl rfl ?_
    refine v_iconst C dL_areRows_79 (v := 4) (by decide) ?_
    refine v_iald C dL_areRows_80 1 ht1 N_g (by unfold vp_in; decide) ?_
    refine v_int (b := nI S.2.2.2.1.2.1.length) w4 ?_
    refine v_icmp_ge C 127 dL_areRows_81 (by decide) (fun c1 => ?_) (fun c1 => ?_)
    · skip
      refine v_kn (k' := 2825) (n' := 16950) (by first | exact Nat.le_refl _ | exact Nat.le_of_ble_eq_true rfl | omega | (dsimp only [rmL, rm0]; omega)) (by first | exact Nat.le_refl _ | exact Nat.le_of_ble_eq_true rfl | omega | (dsimp only [rmL, rm0]; omega)) ?_
      refine v_iload C dL_areRows_127 (j := 1) rfl ?_
      refine v_if_eq C 235 dL_areRows_129 (by decide) (fun b6 => absurd b6 (by decide)) (fun b6 => ?_)
      refine v_aload_n C dL_areRows_132 (j := 3) rfl rfl ?_
      refine v_iconst C dL_areRows_133 (v := 5) (by decide) ?_
      refine v_iald C dL_areRows_134 1 ht1 N_g (by unfold vp_in; decide) ?_
      refine v_int (b := nI S.2.2.2.1.2.2.1.length) l5 ?_
      refine v_if_le C 235 dL_areRows_135 (by decide) (fun c2 => ?_) (fun c2 => ?_)
      · skip
        refine v_iload C dL_areRows_235 (j := 1) rfl ?_
        exact v_ireturn C dL_areRows_237 hr (rfl) (Nat.le_of_ble_eq_true rfl) (Nat.le_of_ble_eq_true rfl) (⟨x5, rfl, rfl, hF⟩)
      · skip
        have c3 : 0 < S.2.2.2.1.2.2.1.length := by
            rcases Nat.eq_zero_or_pos S.2.2.2.1.2.2.1.length with z | z
            · rw [z] at c2; exact absurd (by decide) c2
            · exact z
        obtain ⟨i9, hi9⟩ : ∃ i9, S.2.2.2.1.2.2.1.length = i9 + 1 := ⟨S.2.2.2.1.2.2.1.length - 1, by omega⟩
        have hmem : S.2.2.2.1.2.2.1.getD i9 [] ∈ S.2.2.2.1.2.2.1 := by
            rw [List.getD_eq_getElem?_getD, List.getElem?_eq_getElem (by omega)]
            exact List.getElem_mem (by omega)
        obtain ⟨hok9, hl9⟩ := hkL _ hmem
        have hlA : ∀ n, n < 1000 → _ := fun n hn => dv_lineA (S := S) (i := i9) (n := n) (by omega) l40 hn hl9
        have htl := ll i9 (by omega)
        obtain ⟨s9, hs9⟩ : ∃ s9, S.2.2.2.1.2.2.1.getD i9 [] = s9 := ⟨_, rfl⟩
        rw [hs9] at hok9 hl9 hlA htl
        have hlm : nI S.2.2.2.1.2.2.1.length - 1 = nI i9 := by rw [hi9]; exact nI_subN (b := 1) (by omega)
        refine v_ldc2 C dL_areRows_138 (v := (17)) wwL_areRows_k113 ?_
        refine v_lstore C dL_areRows_141 (by decide) (lv' := [(7, _), (6, _), (0, _), (1, _), (2, _), (3, _), (4, _), (5, _)]) rfl ?_
        refine v_iconst C dL_areRows_143 (v := 0) (by decide) ?_
        refine v_istore C dL_areRows_144 (by decide) (lv' := [(9, _), (7, _), (6, _), (0, _), (1, _), (2, _), (3, _), (4, _), (5, _)]) rfl ?_
        refine v_aload_n C dL_areRows_146 (j := 3) rfl rfl ?_
        refine v_bipush C dL_areRows_147 (v := 9) (by decide) ?_
        refine v_aload_n C dL_areRows_149 (j := 4) rfl rfl ?_
        refine v_iconst C dL_areRows_150 (v := 5) (by decide) ?_
        refine v_iald C dL_areRows_151 1 ht1 N_g (by unfold vp_in; decide) ?_
        refine v_int (b := nI S.2.2.2.1.2.2.1.length) l5 ?_
        refine v_iconst C dL_areRows_152 (v := 1) (by decide) ?_
        refine v_isub C dL_areRows_153 ?_
        refine v_int (b := nI i9) hlm ?_
        refine v_iconst C dL_areRows_154 (v := 0) (by decide) ?_
        refine v_iconst C dL_areRows_155 (v := 0) (by decide) ?_
        refine l_cS C (D_line hl ht ht4 hF (nI i9) 0 0) (vx_cwSW 5 C.1.2.2.2.2 gL_areRows_L_does rfl rfl rfl (by decide +kernel) ⟨Nat.le_of_ble_eq_true rfl, Nat.le_of_ble_eq_true rfl⟩) rfl dL_areRows_156 (rest := []) (Nat.le_of_ble_eq_true rfl) rfl ⟨(by first | exact Nat.le_of_ble_eq_true rfl | (dsimp only [rmL, rm0]; omega)), (by first | exact Nat.le_of_ble_eq_true rfl | (dsimp only [rmL, rm0]; omega))⟩ (fun q x' hp => ?_)
        obtain ⟨x6, rfl, rfl, hF⟩ := hp
        have hv6 := hlA 0 (by decide)
        rw [show (0 : Int32) = nI 0 from rfl, hv6.2] at hF
        rw [show dval [-300000] (opLine S (nI i9) 0) = sgA s9 0 from hv6.1]
        refine v_istore C dL_areRows_159 (by decide) (lv' := [(10, _), (9, _), (7, _), (6, _), (0, _), (1, _), (2, _), (3, _), (4, _), (5, _)]) rfl ?_
        obtain ⟨n, u9, hn, hu9, hf, hnl⟩ : ∃ (n : Nat) (u9 : Int64), n = 0 ∧ u9 = 17 ∧ tldF s9 = (s9.drop n).foldl (fun a c => a * 1000003 + c.toInt64) u9 ∧ n ≤ s9.length := ⟨0, 17, rfl, rfl, rfl, Nat.zero_le _⟩
        refine v_lv (lv' := [(10, .int (sgA s9 n)), (9, .int (nI n)), (7, .long u9), (6, .int 1), (0, _), (1, _), (2, _), (3, _), (4, _), (5, _)]) (by rw [hn, hu9]; rfl) ?_
        refine v_kn (k' := 2827 + 2 * n) (n' := 16962 + 12 * n) (by first | exact Nat.le_refl _ | exact Nat.le_of_ble_eq_true rfl | omega | (dsimp only [rmL, rm0]; omega)) (by first | exact Nat.le_refl _ | exact Nat.le_of_ble_eq_true rfl | omega | (dsimp only [rmL, rm0]; omega)) ?_
        clear hn hu9
        induction hd2 : (s9.length - n) using Nat.strongRecOn generalizing n u9 x6 with | _ d2 ih2 =>
          refine v_iload C dL_areRows_161 (j := 0) rfl ?_
          refine v_if_le C 207 dL_areRows_163 (by decide) (fun c4 => ?_) (fun c4 => ?_)
          · skip
            have c5 : n = s9.length := by
                refine Nat.le_antisymm hnl (Nat.le_of_not_lt (fun z => ?_))
                unfold sgA at c4
                rw [if_pos z] at c4
                exact al_pos _ (oks_getD hok9 z) c4
            rw [c5, List.drop_length] at hf
            refine v_lload C dL_areRows_207 (j := 2) rfl ?_
            refine v_aload C dL_areRows_209 (j := 9) rfl ?_
            refine v_aload_n C dL_areRows_211 (j := 5) rfl rfl ?_
            refine v_iconst C dL_areRows_212 (v := 5) (by decide) ?_
            refine v_iald C dL_areRows_213 1 ht1 N_g (by unfold vp_in; decide) ?_
            refine v_int (b := nI S.2.2.2.1.2.2.1.length) l5 ?_
            refine v_iconst C dL_areRows_214 (v := 1) (by decide) ?_
            refine v_isub C dL_areRows_215 ?_
            refine v_int (b := nI i9) hlm ?_
            refine v_lald C dL_areRows_216 6 ht6 N_l (vp_in_nI (by show i9 < 40; omega) (by decide)) ?_
            refine v_long (b := tldF s9) (by rw [nI_clamp (by omega)]; exact htl) ?_
            refine v_lcmp C dL_areRows_217 ?_
            refine v_if_ne C 232 dL_areRows_218 (by decide) (fun b7 => absurd b7 (fun q => q ((lc_eq _ _).mpr hf.symm))) (fun b7 => ?_)
            refine v_iload C dL_areRows_221 (j := 1) rfl ?_
            refine v_bipush C dL_areRows_223 (v := 61) (by decide) ?_
            refine v_icmp_ge C 232 dL_areRows_225 (by decide) (fun b8 => absurd b8 (fun q => by have := le_of (a := 61) q (by decide) (by omega); omega)) (fun b8 => ?_)
            refine v_iconst C dL_areRows_228 (v := 1) (by decide) ?_
            refine v_goto C 233 dL_areRows_229 (by decide) ?_
            refine v_istore C dL_areRows_233 (by decide) (lv' := [(6, _), (10, _), (9, _), (7, _), (0, _), (1, _), (2, _), (3, _), (4, _), (5, _)]) rfl ?_
            refine v_iload C dL_areRows_235 (j := 0) rfl ?_
            exact v_ireturn C dL_areRows_237 hr (rfl) (by dsimp only; omega) (by dsimp only; omega) (⟨x6, rfl, rfl, hF⟩)
          · skip
            have c5 : n < s9.length := by
                refine Nat.lt_of_not_le (fun z => c4 ?_)
                unfold sgA
                rw [if_neg (by omega)]
                decide
            rw [show sgA s9 n = s9.getD n 0 from if_pos c5]
            refine v_iload C dL_areRows_166 (j := 1) rfl ?_
            refine v_bipush C dL_areRows_168 (v := 61) (by decide) ?_
            refine v_icmp_ge C 207 dL_areRows_170 (by decide) (fun b7 => absurd b7 (fun q => by have := le_of (a := 61) q (by decide) (by omega); omega)) (fun b7 => ?_)
            refine v_lload C dL_areRows_173 (j := 2) rfl ?_
            refine v_ldc2 C dL_areRows_175 (v := (1000003)) wwL_areRows_k115 ?_
            refine v_lmul C dL_areRows_178 ?_
            refine v_iload C dL_areRows_179 (j := 0) rfl ?_
            refine v_i2l C dL_areRows_181 ?_
            refine v_ladd C dL_areRows_182 ?_
            refine v_lstore C dL_areRows_183 (by decide) (lv' := [(7, _), (10, _), (9, _), (6, _), (0, _), (1, _), (2, _), (3, _), (4, _), (5, _)]) rfl ?_
            refine v_iinc C dL_areRows_185 (j := 2) (v := _ + 1) rfl rfl (by decide) (lv' := [(9, _), (7, _), (10, _), (6, _), (0, _), (1, _), (2, _), (3, _), (4, _), (5, _)]) rfl ?_
            refine v_aload_n C dL_areRows_188 (j := 4) rfl rfl ?_
            refine v_bipush C dL_areRows_189 (v := 9) (by decide) ?_
            refine v_aload_n C dL_areRows_191 (j := 5) rfl rfl ?_
            refine v_iconst C dL_areRows_192 (v := 5) (by decide) ?_
            rw [nI_1]
            refine v_iald C dL_areRows_193 1 ht1 N_g (by unfold vp_in; decide) ?_
            refine v_int (b := nI S.2.2.2.1.2.2.1.length) l5 ?_
            refine v_iconst C dL_areRows_194 (v := 1) (by decide) ?_
            refine v_isub C dL_areRows_195 ?_
            refine v_int (b := nI i9) hlm ?_
            refine v_iload C dL_areRows_196 (j := 0) rfl ?_
            refine v_iconst C dL_areRows_198 (v := 0) (by decide) ?_
            refine l_cS C (D_line hl ht ht4 hF (nI i9) (nI (n + 1)) 0) (vx_cwSW 5 C.1.2.2.2.2 gL_areRows_L_does rfl rfl rfl (by decide +kernel) ⟨Nat.le_of_ble_eq_true rfl, Nat.le_of_ble_eq_true rfl⟩) rfl dL_areRows_199 (rest := []) (Nat.le_of_ble_eq_true rfl) rfl ⟨(by first | exact Nat.le_of_ble_eq_true rfl | (dsimp only [rmL, rm0]; omega)), (by first | exact Nat.le_of_ble_eq_true rfl | (dsimp only [rmL, rm0]; omega))⟩ (fun q x' hp => ?_)
            obtain ⟨x7, rfl, rfl, hF7⟩ := hp
            have hv7 := hlA (n + 1) (by omega)
            rw [hv7.2] at hF7
            rw [hv7.1]
            refine v_istore C dL_areRows_202 (by decide) (lv' := [(10, _), (9, _), (7, _), (6, _), (0, _), (1, _), (2, _), (3, _), (4, _), (5, _)]) rfl ?_
            refine v_goto C 161 dL_areRows_204 (by decide) ?_
            refine v_kn (k' := 2827 + 2 * (n + 1)) (n' := 16962 + 12 * (n + 1)) (by first | exact Nat.le_refl _ | exact Nat.le_of_ble_eq_true rfl | omega | (dsimp only [rmL, rm0]; omega)) (by first | exact Nat.le_refl _ | exact Nat.le_of_ble_eq_true rfl | omega | (dsimp only [rmL, rm0]; omega)) ?_
            exact ih2 (s9.length - (n + 1)) (by omega) x7 hF7 (n + 1) _ (by rw [hf, dropc (0 : Int32) c5]; rfl) (by omega) rfl
    · skip
      have c2 : j < S.2.2.2.1.2.1.length := lt_ofn c1 (by omega) (by omega)
      obtain ⟨r1, r2⟩ := wr j c2
      obtain ⟨o1, o2⟩ := hkR j c2
      refine v_iload C dL_areRows_84 (j := 1) rfl ?_
      refine v_if_eq C 127 dL_areRows_86 (by decide) (fun b6 => absurd b6 (by decide)) (fun b6 => ?_)
      refine v_aload_n C dL_areRows_89 (j := 2) rfl rfl ?_
      refine v_iload C dL_areRows_90 (j := 0) rfl ?_
      refine l_xF C (ci := 11) (FX_row hl ht3 hF (nI j)) (cwV 1 C.1.2.2.2.2 gL_areRows_X11_row rfl rfl rfl (by decide +kernel) ⟨Nat.le_of_ble_eq_true rfl, Nat.le_of_ble_eq_true rfl⟩) rfl rfl hF.gC dL_areRows_92 (rest := []) (Nat.le_of_ble_eq_true rfl) rfl ⟨(by first | exact Nat.le_of_ble_eq_true rfl | (dsimp only [rmL, rm0]; omega)), (by first | exact Nat.le_of_ble_eq_true rfl | (dsimp only [rmL, rm0]; omega))⟩ (fun E x' hE => absurd ⟨nI_pos' (by omega), (nI_ltI (by omega) (by omega)).mpr c2⟩ hE.2.2) (fun q x' hp => ?_)
      obtain ⟨rfl, -, rfl⟩ := hp
      rw [nI_clamp (by omega)]
      refine v_aload_n C dL_areRows_95 (j := 4) rfl rfl ?_
      refine v_iload C dL_areRows_96 (j := 0) rfl ?_
      refine v_iald C dL_areRows_98 1 ht1 N_m (vp_in_nI (by show j < 21; omega) (by decide)) ?_
      rw [nI_clamp (by omega)]
      refine v_icmp_ne C 118 dL_areRows_99 (by decide) (fun b7 => absurd b7 (fun q => q r1.symm)) (fun b7 => ?_)
      refine v_aload_n C dL_areRows_102 (j := 2) rfl rfl ?_
      refine v_iload C dL_areRows_103 (j := 0) rfl ?_
      refine v_aload_n C dL_areRows_105 (j := 5) rfl rfl ?_
      refine v_aload C dL_areRows_106 (j := 6) rfl ?_
      refine v_ci (v_runS C (n_isKey hT0 hF c2 w20 o1 o2 r2) (va_cwS 4 C.1.2.2.2.2 gL_areRows_L_isKey rfl rfl rfl (by decide +kernel) ⟨Nat.le_of_ble_eq_true rfl, Nat.le_of_ble_eq_true rfl⟩) rfl dL_areRows_108 (rest := []) (Nat.le_of_ble_eq_true rfl) rfl ⟨(by first | exact Nat.le_of_ble_eq_true rfl | (dsimp only [rmL, rm0]; omega)), (by first | exact Nat.le_of_ble_eq_true rfl | (dsimp only [rmL, rm0]; omega))⟩) (fun q x' hp => ?_)
      obtain ⟨x6, rfl, rfl, hF6⟩ := hp
      refine v_if_eq C 118 dL_areRows_111 (by decide) (fun b8 => absurd b8 (by decide)) (fun b8 => ?_)
      refine v_iconst C dL_areRows_114 (v := 1) (by decide) ?_
      refine v_goto C 119 dL_areRows_115 (by decide) ?_
      refine v_istore C dL_areRows_119 (by decide) (lv' := [(6, _), (7, _), (0, _), (1, _), (2, _), (3, _), (4, _), (5, _)]) rfl ?_
      refine v_iinc C dL_areRows_121 (j := 1) (v := _ + 1) rfl rfl (by decide) (lv' := [(7, _), (6, _), (0, _), (1, _), (2, _), (3, _), (4, _), (5, _)]) rfl ?_
      refine v_goto C 76 dL_areRows_124 (by decide) ?_
      rw [nI_1]
      refine v_kn (k' := 5 + 141 * (j + 1)) (n' := 30 + 846 * (j + 1)) (by first | exact Nat.le_refl _ | exact Nat.le_of_ble_eq_true rfl | omega | (dsimp only [rmL, rm0]; omega)) (by first | exact Nat.le_refl _ | exact Nat.le_of_ble_eq_true rfl | omega | (dsimp only [rmL, rm0]; omega)) ?_
      exact ih (S.2.2.2.1.2.1.length - (j + 1)) (by omega) x6 hF6 (j + 1) (by omega) rfl
end NAR
