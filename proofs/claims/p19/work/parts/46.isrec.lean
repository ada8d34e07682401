/-! ===== the law: is the record the law's ===== -/
theorem wwL_isRecord_k47 : Cond.constant RL 47 (-300000) ∈ wsL_isRecord := by decide +kernel
theorem al_ch : ∀ c ∈ alph, ch c := by unfold ch; decide +kernel
theorem isFd_k {k : Nat} (h : k ≤ 12) : isFd (nI k) = true := by
  have hA : ∀ k : Fin 13, isFd (nI k.val) = true := by decide +kernel
  exact hA ⟨k, by omega⟩
def lwT (l : Launch) (tys : List (ClassId × FieldType)) (cC cI cR cT cO cJ : ClassId) : Prop := l.stackTraces = false ∧ tys[0]? = some (cC, .char) ∧ tys[1]? = some (cI, .int) ∧ tys[3]? = some (cR, .object RX6) ∧ tys[4]? = some (cT, .object RX10) ∧ tys[5]? = some (cO, .object "java/lang/Object") ∧ tys[6]? = some (cJ, .long)
section FX
variable {l : Launch} {D : va_G} {tys : List (ClassId × FieldType)} {z0 : Nat} {B : Nat → Prop} {cC cI cO cT cR : ClassId} {a na : Nat → Nat} {xf : fS} {S : aS}
theorem FX_number (hl : l.stackTraces = false) (ht : tys[0]? = some (cC, .char)) (ht4 : tys[4]? = some (cT, .object RX10)) (hF : fI z0 cI cO cT cR a na xf S) (z : Int32) : cX D tys z0 B (picF D cC B) l yX11_number wsX11_number ({ frames := 7, cells := 1, slots := 6, locals := 112 } : Room) [.ref (a 0), .int z] xf (qI (picF D cC B) B (fun q x => x = xf ∧ isFd z = true ∧ q = num (fld S.1 S.2.2.2.1.1 z.toNatClampNeg))) (fun E x => E = xIOO ∧ x = xf ∧ isFd z = false) := by
  obtain ⟨f, T⟩ := xf
  obtain ⟨stk, lab, lf, hW, hL, hR⟩ := hF
  exact k_number hl ht ht4 hW z
theorem FX_character (hl : l.stackTraces = false) (ht : tys[0]? = some (cC, .char)) (ht4 : tys[4]? = some (cT, .object RX10)) (hF : fI z0 cI cO cT cR a na xf S) (z p0 : Int32) : cX D tys z0 B (picF D cC B) l yX11_character wsX11_character ({ frames := 8, cells := 2, slots := 12, locals := 134 } : Room) [.ref (a 0), .int z, .int p0] xf (qI (picF D cC B) B (fun q x => x = xf ∧ isFd z = true ∧ (0 ≤ p0 ∧ p0 < nI (fld S.1 S.2.2.2.1.1 z.toNatClampNeg).length) ∧ q = atT (fld S.1 S.2.2.2.1.1 z.toNatClampNeg) p0)) (fun E x => E = xIOO ∧ x = xf ∧ ¬ (isFd z = true ∧ 0 ≤ p0 ∧ p0 < nI (fld S.1 S.2.2.2.1.1 z.toNatClampNeg).length)) := by
  obtain ⟨f, T⟩ := xf
  obtain ⟨stk, lab, lf, hW, hL, hR⟩ := hF
  exact k_character hl ht ht4 hW z p0
theorem FX_row (hl : l.stackTraces = false) (ht3 : tys[3]? = some (cR, .object RX6)) (hF : fI z0 cI cO cT cR a na xf S) (z : Int32) : cX D tys z0 B (picF D cC B) l yX11_row wsX11_row ({ frames := 7, cells := 1, slots := 6, locals := 113 } : Room) [.ref (a 0), .int z] xf (qI (picF D cC B) B (fun q x => x = xf ∧ (0 ≤ z ∧ z < nI S.2.2.2.1.2.1.length) ∧ q = (S.2.2.2.1.2.1.getD z.toNatClampNeg ([], 0)).2)) (fun E x => E = xIOO ∧ x = xf ∧ ¬ (0 ≤ z ∧ z < nI S.2.2.2.1.2.1.length)) := by
  obtain ⟨f, T⟩ := xf
  obtain ⟨stk, lab, lf, hW, hL, hR⟩ := hF
  exact k_row hl ht3 hW z
end FX
theorem dv_num {S : aS} {z : Int32} (h : isFd z = false) : dval [-300000] (opNum S z) = -300000 ∧ (opNum S z).2.2 = S := by unfold opNum; rw [if_neg (by rw [h]; decide)]; exact ⟨rfl, rfl⟩
theorem dv_char {S : aS} {z p0 : Int32} (h : ¬ (isFd z = true ∧ 0 ≤ p0 ∧ p0 < nI (fld S.1 S.2.2.2.1.1 z.toNatClampNeg).length)) : dval [-300000] (opChar S z p0) = -300000 ∧ (opChar S z p0).2.2 = S := by unfold opChar; rw [if_neg h]; exact ⟨rfl, rfl⟩
section NIR
variable {l : Launch} {D : va_G} {tys : List (ClassId × FieldType)} {z0 : Nat} {A : Nat → Prop} {cC cI cJ cO cT cR : ClassId} {ad al a na : Nat → Nat} {xf : fS} {X : Nat → Nat → Int32} {Y : Nat → Nat → Int64} {S : aS}
set_option maxRecDepth 100000 in
set_option maxHeartbeats 16000000 in
theorem n_isRecord (hT : lwT l tys cC cI cR cT cO cJ) (hF : fI z0 cI cO cT cR a na xf S) (hA : nA X Y S) : ct D tys z0 A (picL D cC cI cJ ad al A) l yL_isRecord wsL_isRecord ({ frames := 11, cells := 1700, slots := 10200, locals := 400 } : Room) [.ref (a 0), .ref (ad 0), .ref (ad 5)] (xf, X, Y) (qI (picL D cC cI cJ ad al A) A (fun q x => ∃ x', x = (x', X, Y) ∧ q = 1 ∧ fI z0 cI cO cT cR a na x' S)) := by
  obtain ⟨hl, ht, ht1, ht3, ht4, ht5, ht6⟩ := hT
  obtain ⟨⟨e0, e1, e3, eR⟩, eT, eW, eL, e2⟩ := hA
  have h60 := eT.2.1
  refine ct_of RL (by decide +kernel) rfl rfl (Nat.le_of_ble_eq_true rfl) ?_
  intro p e s m below meth c C hr hm
  refine v_lv (lv' := [(0, _), (1, _), (2, _)]) rfl ?_
  refine v_aload_n C dL_isRecord_0 (j := 0) rfl rfl ?_
  refine l_iF C (ci := 11) (F_fields hF) (cwV 0 C.1.2.2.2.2 gL_isRecord_X11_fields rfl rfl rfl (by decide +kernel) ⟨Nat.le_of_ble_eq_true rfl, Nat.le_of_ble_eq_true rfl⟩) rfl rfl hF.gC dL_isRecord_1 (rest := []) (Nat.le_of_ble_eq_true rfl) rfl ⟨(by first | exact Nat.le_of_ble_eq_true rfl | (dsimp only [rmL, rm0]; omega)), (by first | exact Nat.le_of_ble_eq_true rfl | (dsimp only [rmL, rm0]; omega))⟩ (fun q x1 hp => ?_)
  obtain ⟨rfl, hF⟩ := hp
  replace hF : fI z0 cI cO cT cR a na x1 S := hF
  refine v_aload_n C dL_isRecord_4 (j := 1) rfl rfl ?_
  refine v_aload_n C dL_isRecord_5 (j := 2) rfl rfl ?_
  refine v_ci (v_runS C (n_fields ht1 eT e0) (va_cwS 2 C.1.2.2.2.2 gL_isRecord_L_fields rfl rfl rfl (by decide +kernel) ⟨Nat.le_of_ble_eq_true rfl, Nat.le_of_ble_eq_true rfl⟩) rfl dL_isRecord_6 (rest := [_]) (Nat.le_of_ble_eq_true rfl) rfl ⟨(by first | exact Nat.le_of_ble_eq_true rfl | (dsimp only [rmL, rm0]; omega)), (by first | exact Nat.le_of_ble_eq_true rfl | (dsimp only [rmL, rm0]; omega))⟩) (fun q x' hx' => ?_)
  obtain ⟨rfl, rfl⟩ := hx'
  refine v_icmp_ne C 54 dL_isRecord_9 (by decide) (fun b1 => absurd b1 (fun q => q rfl)) (fun b1 => ?_)
  refine v_aload_n C dL_isRecord_12 (j := 0) rfl rfl ?_
  refine l_iF C (ci := 11) (F_faults hF) (cwV 0 C.1.2.2.2.2 gL_isRecord_X11_faults rfl rfl rfl (by decide +kernel) ⟨Nat.le_of_ble_eq_true rfl, Nat.le_of_ble_eq_true rfl⟩) rfl rfl hF.gC dL_isRecord_13 (rest := []) (Nat.le_of_ble_eq_true rfl) rfl ⟨(by first | exact Nat.le_of_ble_eq_true rfl | (dsimp only [rmL, rm0]; omega)), (by first | exact Nat.le_of_ble_eq_true rfl | (dsimp only [rmL, rm0]; omega))⟩ (fun q x2 hp => ?_)
  obtain ⟨rfl, hF⟩ := hp
  replace hF : fI z0 cI cO cT cR a na x2 S := hF
  refine v_aload_n C dL_isRecord_16 (j := 2) rfl rfl ?_
  refine v_iconst C dL_isRecord_17 (v := 2) (by decide) ?_
  refine v_iald C dL_isRecord_18 1 ht1 N_g (by unfold vp_in; decide) ?_
  refine v_icmp_ne C 54 dL_isRecord_19 (by decide) (fun b2 => absurd b2 (fun q => q e2.symm)) (fun b2 => ?_)
  refine v_aload_n C dL_isRecord_22 (j := 0) rfl rfl ?_
  refine v_iconst C dL_isRecord_23 (v := 5) (by decide) ?_
  refine v_bipush C dL_isRecord_24 (v := 13) (by decide) ?_
  refine v_iconst C dL_isRecord_26 (v := 0) (by decide) ?_
  refine v_iconst C dL_isRecord_27 (v := 0) (by decide) ?_
  refine l_cS C (D_number hl ht ht4 hF 13 0 0) (vx_cwSW 5 C.1.2.2.2.2 gL_isRecord_L_does rfl rfl rfl (by decide +kernel) ⟨Nat.le_of_ble_eq_true rfl, Nat.le_of_ble_eq_true rfl⟩) rfl dL_isRecord_28 (rest := []) (Nat.le_of_ble_eq_true rfl) rfl ⟨(by first | exact Nat.le_of_ble_eq_true rfl | (dsimp only [rmL, rm0]; omega)), (by first | exact Nat.le_of_ble_eq_true rfl | (dsimp only [rmL, rm0]; omega))⟩ (fun q x' hp => ?_)
  obtain ⟨x3, rfl, rfl, hF⟩ := hp
  rw [(dv_num (S := S) (z := 13) (by decide)).2] at hF
  rw [(dv_num (S := S) (z := 13) (by decide)).1]
  refine v_ldc C dL_isRecord_31 (v := (-300000)) wwL_isRecord_k47 ?_
  refine v_icmp_ne C 54 dL_isRecord_33 (by decide) (fun b3 => absurd b3 (by decide)) (fun b3 => ?_)
  refine v_aload_n C dL_isRecord_36 (j := 0) rfl rfl ?_
  refine v_bipush C dL_isRecord_37 (v := 6) (by decide) ?_
  refine v_iconst C dL_isRecord_39 (v := (-1)) (by decide) ?_
  refine v_iconst C dL_isRecord_40 (v := 0) (by decide) ?_
  refine v_iconst C dL_isRecord_41 (v := 0) (by decide) ?_
  refine l_cS C (D_character hl ht ht4 hF (-1) 0 0) (vx_cwSW 5 C.1.2.2.2.2 gL_isRecord_L_does rfl rfl rfl (by decide +kernel) ⟨Nat.le_of_ble_eq_true rfl, Nat.le_of_ble_eq_true rfl⟩) rfl dL_isRecord_42 (rest := []) (Nat.le_of_ble_eq_true rfl) rfl ⟨(by first | exact Nat.le_of_ble_eq_true rfl | (dsimp only [rmL, rm0]; omega)), (by first | exact Nat.le_of_ble_eq_true rfl | (dsimp only [rmL, rm0]; omega))⟩ (fun q x' hp => ?_)
  obtain ⟨x4, rfl, rfl, hF⟩ := hp
  rw [(dv_char (S := S) (z := -1) (p0 := 0) (fun z => absurd z.1 (by decide))).2] at hF
  rw [(dv_char (S := S) (z := -1) (p0 := 0) (fun z => absurd z.1 (by decide))).1]
  refine v_ldc C dL_isRecord_45 (v := (-300000)) wwL_isRecord_k47 ?_
  refine v_icmp_ne C 54 dL_isRecord_47 (by decide) (fun b4 => absurd b4 (by decide)) (fun b4 => ?_)
  refine v_iconst C dL_isRecord_50 (v := 1) (by decide) ?_
  refine v_goto C 55 dL_isRecord_51 (by decide) ?_
  refine v_istore_n C dL_isRecord_55 rfl (by decide) (lv' := [(3, _), (0, _), (1, _), (2, _)]) rfl ?_
  refine v_iconst C dL_isRecord_56 (v := 0) (by decide) ?_
  refine v_istore C dL_isRecord_57 (by decide) (lv' := [(4, _), (3, _), (0, _), (1, _), (2, _)]) rfl ?_
  obtain ⟨f, hf, hf13⟩ : ∃ f : Nat, f = 0 ∧ f ≤ 13 := ⟨0, rfl, by decide⟩
  refine v_lv (lv' := [(4, .int (nI f)), (3, .int 1), (0, _), (1, _), (2, _)]) (by rw [hf]; rfl) ?_
  refine v_kn (k' := 3 + 125 * f) (n' := 18 + 750 * f) (by first | exact Nat.le_refl _ | exact Nat.le_of_ble_eq_true rfl | omega | (dsimp only [rmL, rm0]; omega)) (by first | exact Nat.le_refl _ | exact Nat.le_of_ble_eq_true rfl | omega | (dsimp only [rmL, rm0]; omega)) ?_
  clear hf
  induction hd : (13 - f) using Nat.strongRecOn generalizing f x4 with | _ d ih =>
    refine v_iload C dL_isRecord_59 (j := 0) rfl ?_
    refine v_bipush C dL_isRecord_61 (v := 13) (by decide) ?_
    refine v_icmp_ge C 198 dL_isRecord_63 (by decide) (fun c1 => ?_) (fun c1 => ?_)
    · skip
      have c2 : f = 13 := by have := le_of (a := 13) c1 (by decide) (by omega); omega
      refine v_iload_n C dL_isRecord_198 (j := 1) rfl rfl ?_
      exact v_ireturn C dL_isRecord_199 hr (rfl) (by dsimp only; omega) (by dsimp only; omega) (⟨x4, rfl, rfl, hF⟩)
    · skip
      have c2 : f ≤ 12 := by have := lt_ofn (a := 13) c1 (by decide) (by omega); omega
      have hs := eS S.1 S.2.2.2.1.1 f
      obtain ⟨b, hb⟩ : ∃ b, eB S.1 S.2.2.2.1.1 f = b := ⟨_, rfl⟩
      obtain ⟨e9, he⟩ : ∃ e9, eE S.1 S.2.2.2.1.1 f = e9 := ⟨_, rfl⟩
      obtain ⟨t, ht9⟩ : ∃ t, fld S.1 S.2.2.2.1.1 f = t := ⟨_, rfl⟩
      rw [hb, he, ht9] at hs
      have hl9 := str_len hs
      have hbe := hs.1
      have her := hs.2.1
      have hnc : (nI f).toNatClampNeg = f := nI_clamp (by omega)
      refine v_iload_n C dL_isRecord_66 (j := 1) rfl rfl ?_
      refine v_if_eq C 198 dL_isRecord_67 (by decide) (fun b5 => absurd b5 (by decide)) (fun b5 => ?_)
      refine v_aload_n C dL_isRecord_70 (j := 3) rfl rfl ?_
      refine v_aload_n C dL_isRecord_71 (j := 4) rfl rfl ?_
      refine v_iload C dL_isRecord_72 (j := 0) rfl ?_
      refine v_iconst C dL_isRecord_74 (v := 0) (by decide) ?_
      refine v_ci (v_runS C (n_edB ht1 eT e0 c2) (va_cwS 4 C.1.2.2.2.2 gL_isRecord_L_edge rfl rfl rfl (by decide +kernel) ⟨Nat.le_of_ble_eq_true rfl, Nat.le_of_ble_eq_true rfl⟩) rfl dL_isRecord_75 (rest := []) (Nat.le_of_ble_eq_true rfl) rfl ⟨(by first | exact Nat.le_of_ble_eq_true rfl | (dsimp only [rmL, rm0]; omega)), (by first | exact Nat.le_of_ble_eq_true rfl | (dsimp only [rmL, rm0]; omega))⟩) (fun q x' hx' => ?_)
      obtain ⟨rfl, rfl⟩ := hx'
      rw [hb]
      refine v_istore C dL_isRecord_78 (by decide) (lv' := [(5, _), (4, _), (3, _), (0, _), (1, _), (2, _)]) rfl ?_
      refine v_aload_n C dL_isRecord_80 (j := 4) rfl rfl ?_
      refine v_aload_n C dL_isRecord_81 (j := 5) rfl rfl ?_
      refine v_iload C dL_isRecord_82 (j := 1) rfl ?_
      refine v_iconst C dL_isRecord_84 (v := 1) (by decide) ?_
      refine v_ci (v_runS C (n_edE ht1 eT e0 c2) (va_cwS 4 C.1.2.2.2.2 gL_isRecord_L_edge rfl rfl rfl (by decide +kernel) ⟨Nat.le_of_ble_eq_true rfl, Nat.le_of_ble_eq_true rfl⟩) rfl dL_isRecord_85 (rest := []) (Nat.le_of_ble_eq_true rfl) rfl ⟨(by first | exact Nat.le_of_ble_eq_true rfl | (dsimp only [rmL, rm0]; omega)), (by first | exact Nat.le_of_ble_eq_true rfl | (dsimp only [rmL, rm0]; omega))⟩) (fun q x' hx' => ?_)
      obtain ⟨rfl, rfl⟩ := hx'
      rw [he]
      refine v_istore C dL_isRecord_88 (by decide) (lv' := [(6, _), (5, _), (4, _), (3, _), (0, _), (1, _), (2, _)]) rfl ?_
      refine v_aload_n C dL_isRecord_90 (j := 4) rfl rfl ?_
      refine v_iload C dL_isRecord_91 (j := 2) rfl ?_
      refine l_xF C (ci := 11) (FX_number hl ht ht4 hF (nI f)) (cwV 1 C.1.2.2.2.2 gL_isRecord_X11_number rfl rfl rfl (by decide +kernel) ⟨Nat.le_of_ble_eq_true rfl, Nat.le_of_ble_eq_true rfl⟩) rfl rfl hF.gC dL_isRecord_93 (rest := []) (Nat.le_of_ble_eq_true rfl) rfl ⟨(by first | exact Nat.le_of_ble_eq_true rfl | (dsimp only [rmL, rm0]; omega)), (by first | exact Nat.le_of_ble_eq_true rfl | (dsimp only [rmL, rm0]; omega))⟩ (fun E x' hE => absurd (isFd_k c2) (by rw [hE.2.2]; decide)) (fun q x' hp => ?_)
      obtain ⟨rfl, -, rfl⟩ := hp
      rw [hnc, ht9]
      refine v_aload_n C dL_isRecord_96 (j := 5) rfl rfl ?_
      refine v_iload C dL_isRecord_97 (j := 1) rfl ?_
      refine v_iload C dL_isRecord_99 (j := 0) rfl ?_
      refine v_ci (v_runS C (n_number (j := 0) ht1 (by decide) eT hs) (va_cwS 3 C.1.2.2.2.2 gL_isRecord_L_number rfl rfl rfl (by decide +kernel) ⟨Nat.le_of_ble_eq_true rfl, Nat.le_of_ble_eq_true rfl⟩) rfl dL_isRecord_101 (rest := [_]) (Nat.le_of_ble_eq_true rfl) rfl ⟨(by first | exact Nat.le_of_ble_eq_true rfl | (dsimp only [rmL, rm0]; omega)), (by first | exact Nat.le_of_ble_eq_true rfl | (dsimp only [rmL, rm0]; omega))⟩) (fun q x' hx' => ?_)
      obtain ⟨rfl, rfl⟩ := hx'
      refine v_icmp_ne C 145 dL_isRecord_104 (by decide) (fun b6 => absurd b6 (fun q => q rfl)) (fun b6 => ?_)
      refine v_aload_n C dL_isRecord_107 (j := 4) rfl rfl ?_
      refine v_bipush C dL_isRecord_108 (v := 6) (by decide) ?_
      refine v_iload C dL_isRecord_110 (j := 2) rfl ?_
      refine v_iload C dL_isRecord_112 (j := 0) rfl ?_
      refine v_iload C dL_isRecord_114 (j := 1) rfl ?_
      refine v_isub C dL_isRecord_116 ?_
      refine v_int (b := nI (e9 - b)) (nI_subN hbe) ?_
      refine v_iconst C dL_isRecord_117 (v := 0) (by decide) ?_
      refine l_cS C (D_character hl ht ht4 hF (nI f) (nI (e9 - b)) 0) (vx_cwSW 5 C.1.2.2.2.2 gL_isRecord_L_does rfl rfl rfl (by decide +kernel) ⟨Nat.le_of_ble_eq_true rfl, Nat.le_of_ble_eq_true rfl⟩) rfl dL_isRecord_118 (rest := []) (Nat.le_of_ble_eq_true rfl) rfl ⟨(by first | exact Nat.le_of_ble_eq_true rfl | (dsimp only [rmL, rm0]; omega)), (by first | exact Nat.le_of_ble_eq_true rfl | (dsimp only [rmL, rm0]; omega))⟩ (fun q x' hp => ?_)
      obtain ⟨x5, rfl, rfl, hF⟩ := hp
      have hv := dv_char (S := S) (z := nI f) (p0 := nI (e9 - b)) (fun z => by rw [hnc, ht9, hl9] at z; exact Int32.lt_irrefl z.2.2)
      rw [hv.2] at hF
      rw [hv.1]
      refine v_ldc C dL_isRecord_121 (v := (-300000)) wwL_isRecord_k47 ?_
      refine v_icmp_ne C 145 dL_isRecord_123 (by decide) (fun b7 => absurd b7 (by decide)) (fun b7 => ?_)
      refine v_aload_n C dL_isRecord_126 (j := 4) rfl rfl ?_
      refine v_bipush C dL_isRecord_127 (v := 6) (by decide) ?_
      refine v_iload C dL_isRecord_129 (j := 2) rfl ?_
      refine v_iconst C dL_isRecord_131 (v := (-1)) (by decide) ?_
      refine v_iconst C dL_isRecord_132 (v := 0) (by decide) ?_
      refine l_cS C (D_character hl ht ht4 hF (nI f) (-1) 0) (vx_cwSW 5 C.1.2.2.2.2 gL_isRecord_L_does rfl rfl rfl (by decide +kernel) ⟨Nat.le_of_ble_eq_true rfl, Nat.le_of_ble_eq_true rfl⟩) rfl dL_isRecord_133 (rest := []) (Nat.le_of_ble_eq_true rfl) rfl ⟨(by first | exact Nat.le_of_ble_eq_true rfl | (dsimp only [rmL, rm0]; omega)), (by first | exact Nat.le_of_ble_eq_true rfl | (dsimp only [rmL, rm0]; omega))⟩ (fun q x' hp => ?_)
      obtain ⟨x6, rfl, rfl, hF⟩ := hp
      have hv2 := dv_char (S := S) (z := nI f) (p0 := -1) (fun z => absurd z.2.1 (by decide))
      rw [hv2.2] at hF
      rw [hv2.1]
      refine v_ldc C dL_isRecord_136 (v := (-300000)) wwL_isRecord_k47 ?_
      refine v_icmp_ne C 145 dL_isRecord_138 (by decide) (fun b8 => absurd b8 (by decide)) (fun b8 => ?_)
      refine v_iconst C dL_isRecord_141 (v := 1) (by decide) ?_
      refine v_goto C 146 dL_isRecord_142 (by decide) ?_
      refine v_istore_n C dL_isRecord_146 rfl (by decide) (lv' := [(3, _), (6, _), (5, _), (4, _), (0, _), (1, _), (2, _)]) rfl ?_
      refine v_iload C dL_isRecord_147 (j := 2) rfl ?_
      refine v_istore C dL_isRecord_149 (by decide) (lv' := [(7, _), (3, _), (6, _), (5, _), (4, _), (0, _), (1, _), (2, _)]) rfl ?_
      obtain ⟨j, hj, hjl⟩ : ∃ j : Nat, j = 0 ∧ j ≤ t.length := ⟨0, rfl, Nat.zero_le _⟩
      refine v_lv (lv' := [(7, .int (nI (b + j))), (3, .int 1), (6, _), (5, _), (4, _), (0, _), (1, _), (2, _)]) (by rw [hj]; rfl) ?_
      refine v_kn (k' := 3 + 125 * f + (5 + 2 * j)) (n' := 18 + 750 * f + (30 + 12 * j)) (by first | exact Nat.le_refl _ | exact Nat.le_of_ble_eq_true rfl | omega | (dsimp only [rmL, rm0]; omega)) (by first | exact Nat.le_refl _ | exact Nat.le_of_ble_eq_true rfl | omega | (dsimp only [rmL, rm0]; omega)) ?_
      clear hj
      induction hdj : (t.length - j) using Nat.strongRecOn generalizing j x6 with | _ dj ihj =>
        refine v_iload C dL_isRecord_151 (j := 0) rfl ?_
        refine v_iload C dL_isRecord_153 (j := 2) rfl ?_
        refine v_icmp_ge C 192 dL_isRecord_155 (by decide) (fun c3 => ?_) (fun c3 => ?_)
        · skip
          have c4 := le_of c3 (by omega) (by omega)
          refine v_iinc C dL_isRecord_192 (j := 4) (v := _ + 1) rfl rfl (by decide) (lv' := [(4, _), (7, _), (3, _), (6, _), (5, _), (0, _), (1, _), (2, _)]) rfl ?_
          refine v_goto C 59 dL_isRecord_195 (by decide) ?_
          rw [nI_1]
          refine v_sub [0, 2, 5, 6, 7] rfl ?_
          refine v_kn (k' := 3 + 125 * (f + 1)) (n' := 18 + 750 * (f + 1)) (by first | exact Nat.le_refl _ | exact Nat.le_of_ble_eq_true rfl | omega | (dsimp only [rmL, rm0]; omega)) (by first | exact Nat.le_refl _ | exact Nat.le_of_ble_eq_true rfl | omega | (dsimp only [rmL, rm0]; omega)) ?_
          exact ih (13 - (f + 1)) (by omega) x6 hF (f + 1) (by omega) rfl
        · skip
          have c4 : j < t.length := by have := lt_ofn c3 (by omega) (by omega); omega
          refine v_iload_n C dL_isRecord_158 (j := 1) rfl rfl ?_
          refine v_if_eq C 192 dL_isRecord_159 (by decide) (fun b9 => absurd b9 (by decide)) (fun b9 => ?_)
          refine v_aload_n C dL_isRecord_162 (j := 5) rfl rfl ?_
          refine v_iload C dL_isRecord_163 (j := 4) rfl ?_
          refine v_iload C dL_isRecord_165 (j := 0) rfl ?_
          refine v_iload C dL_isRecord_167 (j := 3) rfl ?_
          refine v_isub C dL_isRecord_169 ?_
          refine v_int (b := nI j) (by rw [nI_subN (Nat.le_add_right b j), Nat.add_sub_cancel_left]) ?_
          refine l_xF C (ci := 11) (FX_character hl ht ht4 hF (nI f) (nI j)) (cwV 2 C.1.2.2.2.2 gL_isRecord_X11_character rfl rfl rfl (by decide +kernel) ⟨Nat.le_of_ble_eq_true rfl, Nat.le_of_ble_eq_true rfl⟩) rfl rfl hF.gC dL_isRecord_170 (rest := []) (Nat.le_of_ble_eq_true rfl) rfl ⟨(by first | exact Nat.le_of_ble_eq_true rfl | (dsimp only [rmL, rm0]; omega)), (by first | exact Nat.le_of_ble_eq_true rfl | (dsimp only [rmL, rm0]; omega))⟩ (fun E x' hE => absurd ⟨isFd_k c2, nI_pos' (by omega), by rw [hnc, ht9]; exact (nI_ltI (by omega) (by omega)).mpr c4⟩ hE.2.2) (fun q x' hp => ?_)
          obtain ⟨rfl, -, hp2, rfl⟩ := hp
          rw [hnc, ht9] at hp2 ⊢
          refine v_int (b := t.getD j 0) (by unfold atT; rw [if_pos hp2, nI_clamp (by omega)]) ?_
          refine v_aload_n C dL_isRecord_173 (j := 6) rfl rfl ?_
          refine v_iload C dL_isRecord_174 (j := 0) rfl ?_
          refine v_iald C dL_isRecord_176 1 ht1 (N_t (j := 0) (by decide)) (vp_in_nI (by show b + j < 61; omega) (by decide)) ?_
          refine v_int (b := t.getD j 0) (by rw [nI_clamp (by omega), eT.2.2 _ (by omega), str_get hs c4]) ?_
          refine v_icmp_ne C 184 dL_isRecord_177 (by decide) (fun b10 => absurd b10 (fun q => q rfl)) (fun b10 => ?_)
          refine v_iconst C dL_isRecord_180 (v := 1) (by decide) ?_
          refine v_goto C 185 dL_isRecord_181 (by decide) ?_
          refine v_istore_n C dL_isRecord_185 rfl (by decide) (lv' := [(3, _), (7, _), (6, _), (5, _), (4, _), (0, _), (1, _), (2, _)]) rfl ?_
          refine v_iinc C dL_isRecord_186 (j := 1) (v := _ + 1) rfl rfl (by decide) (lv' := [(7, _), (3, _), (6, _), (5, _), (4, _), (0, _), (1, _), (2, _)]) rfl ?_
          refine v_goto C 151 dL_isRecord_189 (by decide) ?_
          rw [nI_1]
          refine v_kn (k' := 3 + 125 * f + (5 + 2 * (j + 1))) (n' := 18 + 750 * f + (30 + 12 * (j + 1))) (by first | exact Nat.le_refl _ | exact Nat.le_of_ble_eq_true rfl | omega | (dsimp only [rmL, rm0]; omega)) (by first | exact Nat.le_refl _ | exact Nat.le_of_ble_eq_true rfl | omega | (dsimp only [rmL, rm0]; omega)) ?_
          refine v_lv (lv' := [(7, .int (nI (b + (j + 1)))), (3, .int 1), (6, _), (5, _), (4, _), (0, _), (1, _), (2, _)]) rfl ?_
          exact ihj (t.length - (j + 1)) (by omega) _ hF (j + 1) (by omega) rfl
end NIR
