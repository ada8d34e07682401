/-! ===== the law: one thing done ===== -/

section DD
variable {l : Launch}
variable {D : va_G} {tys : List (ClassId × FieldType)} {z0 : Nat} {A : Nat → Prop} {cC cI cJ cO cT cR : ClassId} {b i L : Nat} {xs : Nat → Int32} {ad al a na : Nat → Nat} {xf : fS} {X : Nat → Nat → Int32} {Y : Nat → Nat → Int64} {S : aS}
set_option maxRecDepth 100000 in
set_option maxHeartbeats 8000000 in
theorem n_isDone (hT : lwT l tys cC cI cR cT cO cJ) (hL : L ≤ 260) (hi : i < 990) (hF : fI z0 cI cO cT cR a na xf S) (hA : nA X Y S) (hk : okS S) (hn : ∃ N, N + 1 < 1000000000 ∧ S.2.1 = nI N) : ctS D tys z0 A (picL D cC cI cJ ad al A) b L xs l yL_isDone wsL_isDone ({ frames := 12, cells := 30, slots := 200, locals := 400 } : Room) [.ref (a 0), .ref b, .int (nI i), .ref (ad 0), .ref (ad 1), .ref (ad 2), .ref (ad 3), .ref (ad 4), .ref (al 0), .ref (ad 5), .ref (ad 6), .ref (al 1), .ref (al 2), .ref (al 3)] (xf, X, Y) (qI (picL D cC cI cJ ad al A) A (dnP z0 cI cO cT cR a na S)) := by
  refine ctS_of RL (by decide +kernel) rfl rfl (Nat.le_of_ble_eq_true rfl) ?_
  intro p e s m below meth c C hr hX
  refine v_lv (lv' := [(0, _), (1, _), (2, _), (3, _), (4, _), (5, _), (6, _), (7, _), (8, _), (9, _), (10, _), (11, _), (12, _), (13, _)]) rfl ?_
  refine v_aload_n C dL_isDone_0 (j := 1) rfl rfl ?_
  refine v_iload_n C dL_isDone_1 (j := 2) rfl rfl ?_
  refine v_bipush C dL_isDone_2 (v := 30) (by decide) ?_
  refine v_ci (v_runSS C hX (n_part hL (i := i) (N := 30) (by omega) (by decide) (by decide)) (va_cwS 3 C.1.2.2.2.2 gL_isDone_L_part rfl rfl rfl (by decide +kernel) ⟨Nat.le_of_ble_eq_true rfl, Nat.le_of_ble_eq_true rfl⟩) rfl dL_isDone_4 (rest := []) (Nat.le_of_ble_eq_true rfl) rfl ⟨(by first | exact Nat.le_of_ble_eq_true rfl | (dsimp only [rmL, rm0]; omega)), (by first | exact Nat.le_of_ble_eq_true rfl | (dsimp only [rmL, rm0]; omega))⟩) (fun q x' hx' => ?_)
  obtain ⟨rfl, t0, h0, rfl⟩ := hx'
  refine v_istore C dL_isDone_7 (by decide) (lv' := [(14, _), (0, _), (1, _), (2, _), (3, _), (4, _), (5, _), (6, _), (7, _), (8, _), (9, _), (10, _), (11, _), (12, _), (13, _)]) rfl ?_
  refine v_aload_n C dL_isDone_9 (j := 2) rfl rfl ?_
  refine v_iload_n C dL_isDone_10 (j := 3) rfl rfl ?_
  refine v_iconst C dL_isDone_11 (v := 1) (by decide) ?_
  refine v_iadd C dL_isDone_12 ?_
  rw [nI_1]
  refine v_sipush C dL_isDone_13 (v := 6000) (by decide) ?_
  refine v_ci (v_runSS C hX (n_part hL (i := i + 1) (N := 6000) (by omega) (by decide) (by decide)) (va_cwS 3 C.1.2.2.2.2 gL_isDone_L_part rfl rfl rfl (by decide +kernel) ⟨Nat.le_of_ble_eq_true rfl, Nat.le_of_ble_eq_true rfl⟩) rfl dL_isDone_16 (rest := []) (Nat.le_of_ble_eq_true rfl) rfl ⟨(by first | exact Nat.le_of_ble_eq_true rfl | (dsimp only [rmL, rm0]; omega)), (by first | exact Nat.le_of_ble_eq_true rfl | (dsimp only [rmL, rm0]; omega))⟩) (fun q x' hx' => ?_)
  obtain ⟨rfl, t1, h1, rfl⟩ := hx'
  refine v_istore C dL_isDone_19 (by decide) (lv' := [(15, _), (14, _), (0, _), (1, _), (2, _), (3, _), (4, _), (5, _), (6, _), (7, _), (8, _), (9, _), (10, _), (11, _), (12, _), (13, _)]) rfl ?_
  refine v_aload_n C dL_isDone_21 (j := 3) rfl rfl ?_
  refine v_iload_n C dL_isDone_22 (j := 4) rfl rfl ?_
  refine v_iconst C dL_isDone_23 (v := 2) (by decide) ?_
  refine v_iadd C dL_isDone_24 ?_
  refine v_int (b := nI (i + 2)) (nI_add i 2) ?_
  refine v_sipush C dL_isDone_25 (v := 7000) (by decide) ?_
  refine v_ci (v_runSS C hX (n_part hL (i := i + 2) (N := 7000) (by omega) (by decide) (by decide)) (va_cwS 3 C.1.2.2.2.2 gL_isDone_L_part rfl rfl rfl (by decide +kernel) ⟨Nat.le_of_ble_eq_true rfl, Nat.le_of_ble_eq_true rfl⟩) rfl dL_isDone_28 (rest := []) (Nat.le_of_ble_eq_true rfl) rfl ⟨(by first | exact Nat.le_of_ble_eq_true rfl | (dsimp only [rmL, rm0]; omega)), (by first | exact Nat.le_of_ble_eq_true rfl | (dsimp only [rmL, rm0]; omega))⟩) (fun q x' hx' => ?_)
  obtain ⟨rfl, t2, h2, rfl⟩ := hx'
  refine v_istore C dL_isDone_31 (by decide) (lv' := [(16, _), (15, _), (14, _), (0, _), (1, _), (2, _), (3, _), (4, _), (5, _), (6, _), (7, _), (8, _), (9, _), (10, _), (11, _), (12, _), (13, _)]) rfl ?_
  refine v_aload_n C dL_isDone_33 (j := 4) rfl rfl ?_
  refine v_iload_n C dL_isDone_34 (j := 5) rfl rfl ?_
  refine v_iconst C dL_isDone_35 (v := 3) (by decide) ?_
  refine v_iadd C dL_isDone_36 ?_
  refine v_int (b := nI (i + 3)) (nI_add i 3) ?_
  refine v_sipush C dL_isDone_37 (v := 8000) (by decide) ?_
  refine v_ci (v_runSS C hX (n_part hL (i := i + 3) (N := 8000) (by omega) (by decide) (by decide)) (va_cwS 3 C.1.2.2.2.2 gL_isDone_L_part rfl rfl rfl (by decide +kernel) ⟨Nat.le_of_ble_eq_true rfl, Nat.le_of_ble_eq_true rfl⟩) rfl dL_isDone_40 (rest := []) (Nat.le_of_ble_eq_true rfl) rfl ⟨(by first | exact Nat.le_of_ble_eq_true rfl | (dsimp only [rmL, rm0]; omega)), (by first | exact Nat.le_of_ble_eq_true rfl | (dsimp only [rmL, rm0]; omega))⟩) (fun q x' hx' => ?_)
  obtain ⟨rfl, t3, h3, rfl⟩ := hx'
  refine v_istore C dL_isDone_43 (by decide) (lv' := [(17, _), (16, _), (15, _), (14, _), (0, _), (1, _), (2, _), (3, _), (4, _), (5, _), (6, _), (7, _), (8, _), (9, _), (10, _), (11, _), (12, _), (13, _)]) rfl ?_
  refine v_kn (k' := 0) (n' := 0) (by first | exact Nat.le_refl _ | exact Nat.le_of_ble_eq_true rfl | omega | (dsimp only [rmL, rm0]; omega)) (by first | exact Nat.le_refl _ | exact Nat.le_of_ble_eq_true rfl | omega | (dsimp only [rmL, rm0]; omega)) ?_
  refine v_iload C dL_isDone_45 (j := 3) rfl ?_
  refine v_iconst C dL_isDone_47 (v := 3) (by decide) ?_
  refine v_icmp_ge C 259 dL_isDone_48 (by decide) (fun c1 => ?_) (fun c1 => ?_)
  · skip
    refine v_iload C dL_isDone_259 (j := 3) rfl ?_
    refine v_bipush C dL_isDone_261 (v := 10) (by decide) ?_
    refine v_icmp_ge C 580 dL_isDone_263 (by decide) (fun c2 => ?_) (fun c2 => ?_)
    · skip
      refine v_iload C dL_isDone_580 (j := 3) rfl ?_
      refine v_bipush C dL_isDone_582 (v := 10) (by decide) ?_
      refine v_icmp_ne C 688 dL_isDone_584 (by decide) (fun c3 => ?_) (fun c3 => ?_)
      · skip
        refine v_iload C dL_isDone_688 (j := 3) rfl ?_
        refine v_bipush C dL_isDone_690 (v := 13) (by decide) ?_
        refine v_icmp_ge C 801 dL_isDone_692 (by decide) (fun c4 => ?_) (fun c4 => ?_)
        · skip
          exact done_type hT C hr h1 h2 h3 hF hA hk hn
        · skip
          exact done_setf hT C hr h1 h2 h3 hF hA hk hn
      · skip
        exact done_sep hT C hr h1 h2 h3 hF hA hk hn
    · skip
      exact done_act hT C hr h1 h2 h3 hF hA hk hn
  · skip
    exact done_rule hT C hr h1 h2 h3 hF hA hk hn
end DD
