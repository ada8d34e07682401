/-! ===== the law: one thing done: signs typed, perhaps an end ===== -/
theorem wwdL_isDone_k50 : Cond.constant RL 50 (-200000) ∈ wsL_isDone := by decide +kernel
theorem wwdL_isDone_k53 : Cond.constant RL 53 (-100000) ∈ wsL_isDone := by decide +kernel
theorem nRu_ok {X : Nat → Nat → Int32} {Y : Nat → Nat → Int64} {rls : List Rl} (h : nRu X Y rls) : ∀ R ∈ rls, ∀ c ∈ R.2.2, okA c := by
  intro R hR c hc
  obtain ⟨i, hi, e⟩ := List.getElem_of_mem hR
  obtain ⟨j, hj, e2⟩ := List.getElem_of_mem hc
  have h9 := (h.2.2.1 i hi).2.2.2.2.2.2.2.2 j (by rw [List.getD_eq_getElem?_getD, List.getElem?_eq_getElem hi, e]; exact hj)
  have h8 : rls.getD i rl0 = R := by rw [List.getD_eq_getElem?_getD, List.getElem?_eq_getElem hi, e]; rfl
  rw [h8] at h9
  have h7 : R.2.2.getD j ac0 = c := by rw [List.getD_eq_getElem?_getD, List.getElem?_eq_getElem hj, e2]; rfl
  rw [h7] at h9
  exact h9.1
theorem okS_end {X : Nat → Nat → Int32} {Y : Nat → Nat → Int64} {S : aS} (hA : nA X Y S) (hk : okS S) (hn : ∃ N, N + 1 < 1000000000 ∧ S.2.1 = nI N) : okS (opEnd S).2.2 := by
  obtain ⟨N, hN, hN2⟩ := hn
  exact ⟨hk.1, oks_nil, okW_rules hk.1 ⟨N + 1, hN, by rw [hN2, nI_1]⟩ _ _ _ _ ⟨hk.2.1, hA.1.2.2.1.2.1, hk.2.2.2.2⟩ (nRu_ok hA.1.2.2.2)⟩
theorem dv_type {S : aS} {z : Int32} (h : isCd z = false) : dval [-200000, -100000] (opType S z) = -200000 ∧ (opType S z).2.2 = S := by unfold opType; rw [if_neg (by rw [h]; decide)]; exact ⟨rfl, rfl⟩
section DT
variable {p : Program} {l : Launch} {e : Env} {s : State} {m : MethodId} {args : Array Value} {below : List Frame} {meth : Method} {c : Code}
variable {D : va_G} {tys : List (ClassId × FieldType)} {z0 : Nat} {A : Nat → Prop} {cC cI cJ cO cT cR : ClassId} {b i : Nat} {ad al a na : Nat → Nat} {xf : fS} {X : Nat → Nat → Int32} {Y : Nat → Nat → Int64} {S : aS} {t0 t1 t2 t3 : Nat}
set_option maxRecDepth 100000 in
set_option maxHeartbeats 16000000 in
theorem done_type (hT : lwT l tys cC cI cR cT cO cJ) (C : cx p s m args meth c cL_isDone 26 wsL_isDone RL D tys z0 A) (hr : meth.sig.returnType = some .boolean) (h1 : t1 < 6000) (h2 : t2 < 7000) (h3 : t3 < 8000) (hF : fI z0 cI cO cT cR a na xf S) (hA : nA X Y S) (hk : okS S) (hn : ∃ N, N + 1 < 1000000000 ∧ S.2.1 = nI N) : vv (picL D cC cI cJ ad al A) A 26 p l e ({ frames := 12, cells := 30, slots := 200, locals := 400 } : Room) s m args below meth c (MQ below (qI (picL D cC cI cJ ad al A) A (dnP z0 cI cO cT cR a na S)) args s 30 200 A) (xf, X, Y) 0 0 801 [(17, .int (nI t3)), (16, .int (nI t2)), (15, .int (nI t1)), (14, .int (nI t0)), (0, .ref (a 0)), (1, .ref b), (2, .int (nI i)), (3, .ref (ad 0)), (4, .ref (ad 1)), (5, .ref (ad 2)), (6, .ref (ad 3)), (7, .ref (ad 4)), (8, .ref (al 0)), (9, .ref (ad 5)), (10, .ref (ad 6)), (11, .ref (al 1)), (12, .ref (al 2)), (13, .ref (al 3))] [] := by
  obtain ⟨hl, ht, ht1, ht3, ht4, ht5, ht6⟩ := hT
  refine v_aload_n C dL_isDone_801 (j := 4) rfl rfl ?_
  refine v_iconst C dL_isDone_802 (v := 3) (by decide) ?_
  refine v_bipush C dL_isDone_803 (v := 38) (by decide) ?_
  refine v_iconst C dL_isDone_805 (v := 0) (by decide) ?_
  refine v_iconst C dL_isDone_806 (v := 0) (by decide) ?_
  refine l_cS C (D_type hl ht hF 38 0 0) (vx_cwSW 5 C.1.2.2.2.2 gL_isDone_L_does rfl rfl rfl (by decide +kernel) ⟨Nat.le_of_ble_eq_true rfl, Nat.le_of_ble_eq_true rfl⟩) rfl dL_isDone_807 (rest := []) (Nat.le_of_ble_eq_true rfl) rfl ⟨(by first | exact Nat.le_of_ble_eq_true rfl | (dsimp only [rmL, rm0]; omega)), (by first | exact Nat.le_of_ble_eq_true rfl | (dsimp only [rmL, rm0]; omega))⟩ (fun q x' hp => ?_)
  obtain ⟨x3, rfl, rfl, hF⟩ := hp
  have hv := dv_type (S := S) (z := 38) (by decide)
  rw [hv.2] at hF
  rw [hv.1]
  refine v_ldc C dL_isDone_810 (v := (-200000)) wwdL_isDone_k50 ?_
  refine v_icmp_ne C 832 dL_isDone_812 (by decide) (fun b1 => absurd b1 (by decide)) (fun b1 => ?_)
  refine v_aload_n C dL_isDone_815 (j := 4) rfl rfl ?_
  refine v_iconst C dL_isDone_816 (v := 3) (by decide) ?_
  refine v_iconst C dL_isDone_817 (v := (-1)) (by decide) ?_
  refine v_iconst C dL_isDone_818 (v := 0) (by decide) ?_
  refine v_iconst C dL_isDone_819 (v := 0) (by decide) ?_
  refine l_cS C (D_type hl ht hF (-1) 0 0) (vx_cwSW 5 C.1.2.2.2.2 gL_isDone_L_does rfl rfl rfl (by decide +kernel) ⟨Nat.le_of_ble_eq_true rfl, Nat.le_of_ble_eq_true rfl⟩) rfl dL_isDone_820 (rest := []) (Nat.le_of_ble_eq_true rfl) rfl ⟨(by first | exact Nat.le_of_ble_eq_true rfl | (dsimp only [rmL, rm0]; omega)), (by first | exact Nat.le_of_ble_eq_true rfl | (dsimp only [rmL, rm0]; omega))⟩ (fun q x' hp => ?_)
  obtain ⟨x4, rfl, rfl, hF⟩ := hp
  have hv2 := dv_type (S := S) (z := -1) (by decide)
  rw [hv2.2] at hF
  rw [hv2.1]
  refine v_ldc C dL_isDone_823 (v := (-200000)) wwdL_isDone_k50 ?_
  refine v_icmp_ne C 832 dL_isDone_825 (by decide) (fun b2 => absurd b2 (by decide)) (fun b2 => ?_)
  refine v_iconst C dL_isDone_828 (v := 1) (by decide) ?_
  refine v_goto C 833 dL_isDone_829 (by decide) ?_
  refine v_istore C dL_isDone_833 (by decide) (lv' := [(18, _), (17, _), (16, _), (15, _), (14, _), (0, _), (1, _), (2, _), (3, _), (4, _), (5, _), (6, _), (7, _), (8, _), (9, _), (10, _), (11, _), (12, _), (13, _)]) rfl ?_
  refine v_iconst C dL_isDone_835 (v := 0) (by decide) ?_
  refine v_istore C dL_isDone_836 (by decide) (lv' := [(19, _), (18, _), (17, _), (16, _), (15, _), (14, _), (0, _), (1, _), (2, _), (3, _), (4, _), (5, _), (6, _), (7, _), (8, _), (9, _), (10, _), (11, _), (12, _), (13, _)]) rfl ?_
  obtain ⟨j, S1, X1, hj, hX1, hF1, hA1, hk1, hS1, hjl⟩ : ∃ (j : Nat) (S1 : aS) (X1 : Nat → Nat → Int32), j = 0 ∧ X1 = X ∧ fI z0 cI cO cT cR a na x4 S1 ∧ nA X1 Y S1 ∧ okS S1 ∧ S1.2.1 = S.2.1 ∧ j ≤ 9 := ⟨0, S, X, rfl, rfl, hF, hA, hk, rfl, by decide⟩
  refine v_x (x' := (x4, X1, Y)) (fun H hP => by rw [hX1]; exact hP) ?_
  refine v_lv (lv' := [(19, .int (nI j)), (18, .int 1), (17, _), (16, _), (15, _), (14, _), (0, _), (1, _), (2, _), (3, _), (4, _), (5, _), (6, _), (7, _), (8, _), (9, _), (10, _), (11, _), (12, _), (13, _)]) (by rw [hj]; rfl) ?_
  refine v_kn (k' := 4 + 2 * j) (n' := 24 + 12 * j) (by first | exact Nat.le_refl _ | exact Nat.le_of_ble_eq_true rfl | omega | (dsimp only [rmL, rm0]; omega)) (by first | exact Nat.le_refl _ | exact Nat.le_of_ble_eq_true rfl | omega | (dsimp only [rmL, rm0]; omega)) ?_
  clear hj hX1 hF
  have h9 : t1 % 9 < 9 := Nat.mod_lt _ (by decide)
  induction hd : (9 - j) using Nat.strongRecOn generalizing j S1 X1 x4 with | _ d ih =>
    refine v_iload C dL_isDone_838 (j := 0) rfl ?_
    refine v_iconst C dL_isDone_840 (v := 1) (by decide) ?_
    refine v_iload C dL_isDone_841 (j := 4) rfl ?_
    refine v_bipush C dL_isDone_843 (v := 9) (by decide) ?_
    refine v_irem C dL_isDone_845 (by decide) ?_
    refine v_int (b := nI (t1 % 9)) (pk_rem (d := 9) (by omega) (by decide) (by decide)) ?_
    refine v_iadd C dL_isDone_846 ?_
    refine v_int (b := nI (1 + t1 % 9)) (nI_add 1 _) ?_
    refine v_icmp_ge C 976 dL_isDone_847 (by decide) (fun c1 => ?_) (fun c1 => ?_)
    · skip
      refine v_kn (k' := 22) (n' := 132) (by first | exact Nat.le_refl _ | exact Nat.le_of_ble_eq_true rfl | omega | (dsimp only [rmL, rm0]; omega)) (by first | exact Nat.le_refl _ | exact Nat.le_of_ble_eq_true rfl | omega | (dsimp only [rmL, rm0]; omega)) ?_
      refine v_iload C dL_isDone_976 (j := 1) rfl ?_
      refine v_if_eq C 1030 dL_isDone_978 (by decide) (fun b3 => absurd b3 (by decide)) (fun b3 => ?_)
      refine v_iload C dL_isDone_981 (j := 2) rfl ?_
      refine v_iconst C dL_isDone_983 (v := 4) (by decide) ?_
      refine v_irem C dL_isDone_984 (by decide) ?_
      refine v_int (b := nI (t3 % 4)) (pk_rem (d := 4) (by omega) (by decide) (by decide)) ?_
      refine v_if_le C 1030 dL_isDone_985 (by decide) (fun c2 => ?_) (fun c2 => ?_)
      · skip
        refine v_iload C dL_isDone_1030 (j := 1) rfl ?_
        exact v_ireturn C dL_isDone_1032 hr (rfl) (Nat.le_of_ble_eq_true rfl) (Nat.le_of_ble_eq_true rfl) (⟨x4, X1, Y, S1, rfl, rfl, hF1, hA1, hk1, Or.inl hS1⟩)
      · skip
        have hn1 : ∃ N, N + 1 < 1000000000 ∧ S1.2.1 = nI N := by rw [hS1]; exact hn
        refine v_aload_n C dL_isDone_988 (j := 9) rfl rfl ?_
        refine v_aload C dL_isDone_989 (j := 10) rfl ?_
        refine v_aload C dL_isDone_991 (j := 11) rfl ?_
        refine v_aload C dL_isDone_993 (j := 12) rfl ?_
        refine v_aload C dL_isDone_995 (j := 13) rfl ?_
        refine v_aload C dL_isDone_997 (j := 14) rfl ?_
        refine v_aload C dL_isDone_999 (j := 15) rfl ?_
        refine v_aload C dL_isDone_1001 (j := 16) rfl ?_
        refine v_aload C dL_isDone_1003 (j := 17) rfl ?_
        refine v_aload C dL_isDone_1005 (j := 18) rfl ?_
        refine v_aload C dL_isDone_1007 (j := 19) rfl ?_
        refine v_ci (v_runS C (n_ends ht1 ht6 hA1 hk1 hn1) (va_cwS 11 C.1.2.2.2.2 gL_isDone_L_ends rfl rfl rfl (by decide +kernel) ⟨Nat.le_of_ble_eq_true rfl, Nat.le_of_ble_eq_true rfl⟩) rfl dL_isDone_1009 (rest := []) (Nat.le_of_ble_eq_true rfl) rfl ⟨(by first | exact Nat.le_of_ble_eq_true rfl | (dsimp only [rmL, rm0]; omega)), (by first | exact Nat.le_of_ble_eq_true rfl | (dsimp only [rmL, rm0]; omega))⟩) (fun q x' hx' => ?_)
        obtain ⟨X2, Y2, rfl, rfl, hA2⟩ := hx'
        refine v_istore C dL_isDone_1012 (by decide) (lv' := [(19, _), (18, _), (17, _), (16, _), (15, _), (14, _), (0, _), (1, _), (2, _), (3, _), (4, _), (5, _), (6, _), (7, _), (8, _), (9, _), (10, _), (11, _), (12, _), (13, _)]) rfl ?_
        refine v_aload_n C dL_isDone_1014 (j := 6) rfl rfl ?_
        refine l_iF C (ci := 11) (F_end ht ht1 ht3 ht4 ht5 (al_ch _ hk1.1) hF1) (cwV 0 C.1.2.2.2.2 gL_isDone_X11_end rfl rfl rfl (by decide +kernel) ⟨Nat.le_of_ble_eq_true rfl, Nat.le_of_ble_eq_true rfl⟩) rfl rfl hF1.gC dL_isDone_1015 (rest := []) (Nat.le_of_ble_eq_true rfl) rfl ⟨(by first | exact Nat.le_of_ble_eq_true rfl | (dsimp only [rmL, rm0]; omega)), (by first | exact Nat.le_of_ble_eq_true rfl | (dsimp only [rmL, rm0]; omega))⟩ (fun q x5 hp => ?_)
        obtain ⟨rfl, hF5⟩ := hp
        refine v_iload C dL_isDone_1018 (j := 0) rfl ?_
        refine v_icmp_ne C 1027 dL_isDone_1020 (by decide) (fun b4 => absurd b4 (fun q => q rfl)) (fun b4 => ?_)
        refine v_iconst C dL_isDone_1023 (v := 1) (by decide) ?_
        refine v_goto C 1028 dL_isDone_1024 (by decide) ?_
        refine v_istore C dL_isDone_1028 (by decide) (lv' := [(18, _), (19, _), (17, _), (16, _), (15, _), (14, _), (0, _), (1, _), (2, _), (3, _), (4, _), (5, _), (6, _), (7, _), (8, _), (9, _), (10, _), (11, _), (12, _), (13, _)]) rfl ?_
        refine v_iload C dL_isDone_1030 (j := 0) rfl ?_
        exact v_ireturn C dL_isDone_1032 hr (rfl) (Nat.le_of_ble_eq_true rfl) (Nat.le_of_ble_eq_true rfl) (⟨x5, X2, Y2, (opEnd S1).2.2, rfl, rfl, hF5, hA2, okS_end hA1 hk1 hn1, Or.inr (by show S1.2.1 + 1 = S.2.1 + 1; rw [hS1])⟩)
    · skip
      have c2 := lt_ofn c1 (by omega) (by omega)
      have hjt : j * (t3 + 1) ≤ 9 * 8000 := Nat.mul_le_mul (by omega) (by omega)
      refine v_iload C dL_isDone_850 (j := 1) rfl ?_
      refine v_if_eq C 976 dL_isDone_852 (by decide) (fun b3 => absurd b3 (by decide)) (fun b3 => ?_)
      refine v_iload C dL_isDone_855 (j := 3) rfl ?_
      refine v_iload C dL_isDone_857 (j := 0) rfl ?_
      refine v_iload C dL_isDone_859 (j := 2) rfl ?_
      refine v_iconst C dL_isDone_861 (v := 1) (by decide) ?_
      refine v_iadd C dL_isDone_862 ?_
      rw [nI_1]
      refine v_imul C dL_isDone_863 ?_
      rw [nI_mul]
      refine v_iadd C dL_isDone_864 ?_
      rw [nI_add]
      obtain ⟨dr, hdr⟩ : ∃ dr, t2 + j * (t3 + 1) = dr := ⟨_, rfl⟩
      have hdr9 : dr < 100000 := by omega
      rw [hdr]
      refine v_istore C dL_isDone_865 (by decide) (lv' := [(20, _), (19, _), (18, _), (17, _), (16, _), (15, _), (14, _), (0, _), (1, _), (2, _), (3, _), (4, _), (5, _), (6, _), (7, _), (8, _), (9, _), (10, _), (11, _), (12, _), (13, _)]) rfl ?_
      refine v_cut (pcj := 913) (lvj := [(20, .int (nI dr)), (19, .int (nI j)), (18, .int 1), (17, .int (nI t3)), (16, .int (nI t2)), (15, .int (nI t1)), (14, .int (nI t0)), (0, .ref (a 0)), (1, .ref b), (2, .int (nI i)), (3, .ref (ad 0)), (4, .ref (ad 1)), (5, .ref (ad 2)), (6, .ref (ad 3)), (7, .ref (ad 4)), (8, .ref (al 0)), (9, .ref (ad 5)), (10, .ref (ad 6)), (11, .ref (al 1)), (12, .ref (al 2)), (13, .ref (al 3))]) (stj := []) (fun w => ∃ k, k ≤ 37 ∧ w = nI k) (fun w hw => ?_) (fun K => ?_)
      · skip
        obtain ⟨ck, hck, rfl⟩ := hw
        have hcd : isCd (nI ck) = true := by rw [isCd_n (by omega)]; exact decide_eq_true hck
        obtain ⟨⟨e0, e1, e3, eR⟩, eW⟩ := hA1
        obtain ⟨due, hdue⟩ : ∃ due, dval [-200000, -100000] (opType S1 (nI ck)) = due := ⟨_, rfl⟩
        refine v_istore C dL_isDone_913 (by decide) (lv' := [(21, _), (20, _), (19, _), (18, _), (17, _), (16, _), (15, _), (14, _), (0, _), (1, _), (2, _), (3, _), (4, _), (5, _), (6, _), (7, _), (8, _), (9, _), (10, _), (11, _), (12, _), (13, _)]) rfl ?_
        refine v_cut (pcj := 937) (lvj := [(21, .int (nI ck)), (20, .int (nI dr)), (19, .int (nI j)), (18, .int 1), (17, .int (nI t3)), (16, .int (nI t2)), (15, .int (nI t1)), (14, .int (nI t0)), (0, .ref (a 0)), (1, .ref b), (2, .int (nI i)), (3, .ref (ad 0)), (4, .ref (ad 1)), (5, .ref (ad 2)), (6, .ref (ad 3)), (7, .ref (ad 4)), (8, .ref (al 0)), (9, .ref (ad 5)), (10, .ref (ad 6)), (11, .ref (al 1)), (12, .ref (al 2)), (13, .ref (al 3))]) (stj := []) (fun w => w = due) (fun w hw => ?_) (fun K => ?_)
        · skip
          rw [hw]
          clear hw w
          refine v_istore C dL_isDone_937 (by decide) (lv' := [(22, _), (21, _), (20, _), (19, _), (18, _), (17, _), (16, _), (15, _), (14, _), (0, _), (1, _), (2, _), (3, _), (4, _), (5, _), (6, _), (7, _), (8, _), (9, _), (10, _), (11, _), (12, _), (13, _)]) rfl ?_
          refine v_aload C dL_isDone_939 (j := 15) rfl ?_
          refine v_iload C dL_isDone_941 (j := 1) rfl ?_
          refine v_ci (v_runS C (n_sign hcd) (va_cwS 1 C.1.2.2.2.2 gL_isDone_L_sign rfl rfl rfl (by decide +kernel) ⟨Nat.le_of_ble_eq_true rfl, Nat.le_of_ble_eq_true rfl⟩) rfl dL_isDone_943 (rest := [_]) (Nat.le_of_ble_eq_true rfl) rfl ⟨(by first | exact Nat.le_of_ble_eq_true rfl | (dsimp only [rmL, rm0]; omega)), (by first | exact Nat.le_of_ble_eq_true rfl | (dsimp only [rmL, rm0]; omega))⟩) (fun q x' hx' => ?_)
          obtain ⟨rfl, rfl⟩ := hx'
          refine v_cv (v_runS C (n_puts (j := 3) ht1 (by decide) e3 (sgn (nI ck))) (va_cwS 2 C.1.2.2.2.2 gL_isDone_L_puts rfl rfl rfl (by decide +kernel) ⟨Nat.le_of_ble_eq_true rfl, Nat.le_of_ble_eq_true rfl⟩) rfl dL_isDone_946 (rest := []) (Nat.le_of_ble_eq_true rfl) rfl ⟨(by first | exact Nat.le_of_ble_eq_true rfl | (dsimp only [rmL, rm0]; omega)), (by first | exact Nat.le_of_ble_eq_true rfl | (dsimp only [rmL, rm0]; omega))⟩) (fun x' hx' => ?_)
          obtain ⟨X2, rfl, m2, c2⟩ := hx'
          have c5 := c2 5 (by decide)
          refine v_aload_n C dL_isDone_949 (j := 9) rfl rfl ?_
          refine v_iconst C dL_isDone_950 (v := 3) (by decide) ?_
          refine v_iload C dL_isDone_951 (j := 1) rfl ?_
          refine v_iconst C dL_isDone_953 (v := 0) (by decide) ?_
          refine v_iconst C dL_isDone_954 (v := 0) (by decide) ?_
          refine l_cS C (D_type hl ht hF1 (nI ck) 0 0) (vx_cwSW 5 C.1.2.2.2.2 gL_isDone_L_does rfl rfl rfl (by decide +kernel) ⟨Nat.le_of_ble_eq_true rfl, Nat.le_of_ble_eq_true rfl⟩) rfl dL_isDone_955 (rest := []) (Nat.le_of_ble_eq_true rfl) rfl ⟨(by first | exact Nat.le_of_ble_eq_true rfl | (dsimp only [rmL, rm0]; omega)), (by first | exact Nat.le_of_ble_eq_true rfl | (dsimp only [rmL, rm0]; omega))⟩ (fun q x' hp => ?_)
          obtain ⟨x5, rfl, rfl, hF5⟩ := hp
          rw [hdue]
          refine v_iload C dL_isDone_958 (j := 0) rfl ?_
          refine v_icmp_ne C 967 dL_isDone_960 (by decide) (fun b4 => absurd b4 (fun q => q rfl)) (fun b4 => ?_)
          refine v_iconst C dL_isDone_963 (v := 1) (by decide) ?_
          refine v_goto C 968 dL_isDone_964 (by decide) ?_
          refine v_istore C dL_isDone_968 (by decide) (lv' := [(18, _), (22, _), (21, _), (20, _), (19, _), (17, _), (16, _), (15, _), (14, _), (0, _), (1, _), (2, _), (3, _), (4, _), (5, _), (6, _), (7, _), (8, _), (9, _), (10, _), (11, _), (12, _), (13, _)]) rfl ?_
          refine v_iinc C dL_isDone_970 (j := 4) (v := _ + 1) rfl rfl (by decide) (lv' := [(19, _), (18, _), (22, _), (21, _), (20, _), (17, _), (16, _), (15, _), (14, _), (0, _), (1, _), (2, _), (3, _), (4, _), (5, _), (6, _), (7, _), (8, _), (9, _), (10, _), (11, _), (12, _), (13, _)]) rfl ?_
          refine v_goto C 838 dL_isDone_973 (by decide) ?_
          rw [nI_1]
          refine v_lv (lv' := [(19, .int (nI (j + 1))), (18, .int 1), (22, _), (21, _), (20, _), (17, _), (16, _), (15, _), (14, _), (0, _), (1, _), (2, _), (3, _), (4, _), (5, _), (6, _), (7, _), (8, _), (9, _), (10, _), (11, _), (12, _), (13, _)]) rfl ?_
          refine v_sub [0, 1, 5, 6, 7, 8, 9, 10, 11, 12, 13, 14, 15, 16, 17, 18, 19, 20, 21, 22] rfl ?_
          refine v_kn (k' := 4 + 2 * (j + 1)) (n' := 24 + 12 * (j + 1)) (by first | exact Nat.le_refl _ | exact Nat.le_of_ble_eq_true rfl | omega | (dsimp only [rmL, rm0]; omega)) (by first | exact Nat.le_refl _ | exact Nat.le_of_ble_eq_true rfl | omega | (dsimp only [rmL, rm0]; omega)) ?_
          have hst : (opType S1 (nI ck)).2.2 = (S1.1, S1.2.1, put60 S1.2.2.1 (sgn (nI ck)), S1.2.2.2.1, S1.2.2.2.2) := by
              unfold opType put60
              rw [if_pos hcd]
              by_cases h60 : S1.2.2.1.length < 60
              · rw [if_pos h60, if_pos h60]
              · rw [if_neg h60, if_neg h60]
          rw [hst] at hF5
          exact ih (9 - (j + 1)) (by omega) x5 (j + 1) _ X2 hF5 ⟨⟨(congrFun c5 0).trans e0, (congrFun c5 1).trans e1, m2, eR.ch (congrFun c5 3) (c2 4 (by decide)) rfl⟩, eW.1.ch c2 (by decide), eW.2.1.ch (congrFun c5 4) (c2 6 (by decide)) rfl rfl, eW.2.2.1.ch (congrFun c5 5) rfl, (congrFun c5 2).trans eW.2.2.2⟩ ⟨hk1.1, oks_put60 hk1.2.1 (sgn_al hcd), hk1.2.2⟩ hS1 (by omega) rfl
        · skip
          refine v_aload C dL_isDone_915 (j := 14) rfl ?_
          refine v_bipush C dL_isDone_917 (v := 60) (by decide) ?_
          refine v_iald C dL_isDone_919 1 ht1 (N_t (j := 3) (by decide)) (by unfold vp_in; decide) ?_
          refine v_int (b := nI S1.2.2.1.length) e3.1 ?_
          refine v_bipush C dL_isDone_920 (v := 60) (by decide) ?_
          refine v_icmp_ne C 930 dL_isDone_922 (by decide) (fun c3 => ?_) (fun c3 => ?_)
          · skip
            have c4 : S1.2.2.1.length ≠ 60 := fun z => c3 (by rw [z]; rfl)
            refine v_aload C dL_isDone_930 (j := 14) rfl ?_
            refine v_bipush C dL_isDone_932 (v := 60) (by decide) ?_
            refine v_iald C dL_isDone_934 1 ht1 (N_t (j := 3) (by decide)) (by unfold vp_in; decide) ?_
            refine v_int (b := nI S1.2.2.1.length) e3.1 ?_
            refine v_iconst C dL_isDone_935 (v := 1) (by decide) ?_
            refine v_iadd C dL_isDone_936 ?_
            rw [nI_1]
            exact K _ (by rw [← hdue]; unfold opType; rw [if_pos hcd, if_pos (by have := e3.2.1; omega)]; rfl)
          · skip
            have c4 : S1.2.2.1.length = 60 := by have := congrArg Int32.toNatClampNeg c3; have q9 := e3.2.1; rw [nI_clamp (by omega)] at this; exact this
            refine v_ldc C dL_isDone_925 (v := (-100000)) wwdL_isDone_k53 ?_
            refine v_goto C 937 dL_isDone_927 (by decide) ?_
            exact K _ (by rw [← hdue]; unfold opType; rw [if_pos hcd, if_neg (by omega)]; rfl)
      · skip
        refine v_iload C dL_isDone_867 (j := 0) rfl ?_
        refine v_iconst C dL_isDone_869 (v := 5) (by decide) ?_
        refine v_irem C dL_isDone_870 (by decide) ?_
        refine v_int (b := nI (dr % 5)) (pk_rem (d := 5) (by omega) (by decide) (by decide)) ?_
        refine v_if_ne C 886 dL_isDone_871 (by decide) (fun c3 => ?_) (fun c3 => ?_)
        · skip
          refine v_iload C dL_isDone_886 (j := 0) rfl ?_
          refine v_iconst C dL_isDone_888 (v := 5) (by decide) ?_
          refine v_irem C dL_isDone_889 (by decide) ?_
          refine v_int (b := nI (dr % 5)) (pk_rem (d := 5) (by omega) (by decide) (by decide)) ?_
          refine v_iconst C dL_isDone_890 (v := 4) (by decide) ?_
          refine v_icmp_ge C 904 dL_isDone_891 (by decide) (fun c4 => ?_) (fun c4 => ?_)
          · skip
            refine v_bipush C dL_isDone_904 (v := 10) (by decide) ?_
            refine v_iload C dL_isDone_906 (j := 0) rfl ?_
            refine v_iconst C dL_isDone_908 (v := 5) (by decide) ?_
            refine v_idiv C dL_isDone_909 (by decide) ?_
            refine v_int (b := nI (dr / 5)) (pk_div (d := 5) (by omega) (by decide) (by decide)) ?_
            refine v_iconst C dL_isDone_910 (v := 3) (by decide) ?_
            refine v_irem C dL_isDone_911 (by decide) ?_
            refine v_int (b := nI (dr / 5 % 3)) (pk_rem (d := 3) (by omega) (by decide) (by decide)) ?_
            refine v_iadd C dL_isDone_912 ?_
            exact K _ ⟨10 + dr / 5 % 3, by have := Nat.mod_lt (dr / 5) (show 0 < 3 by decide); omega, nI_add 10 _⟩
          · skip
            refine v_iload C dL_isDone_894 (j := 0) rfl ?_
            refine v_iconst C dL_isDone_896 (v := 5) (by decide) ?_
            refine v_idiv C dL_isDone_897 (by decide) ?_
            refine v_int (b := nI (dr / 5)) (pk_div (d := 5) (by omega) (by decide) (by decide)) ?_
            refine v_bipush C dL_isDone_898 (v := 10) (by decide) ?_
            refine v_irem C dL_isDone_900 (by decide) ?_
            refine v_goto C 913 dL_isDone_901 (by decide) ?_
            exact K _ ⟨dr / 5 % 10, by have := Nat.mod_lt (dr / 5) (show 0 < 10 by decide); omega, pk_rem (d := 10) (by omega) (by decide) (by decide)⟩
        · skip
          refine v_bipush C dL_isDone_874 (v := 36) (by decide) ?_
          refine v_iload C dL_isDone_876 (j := 0) rfl ?_
          refine v_iconst C dL_isDone_878 (v := 5) (by decide) ?_
          refine v_idiv C dL_isDone_879 (by decide) ?_
          refine v_int (b := nI (dr / 5)) (pk_div (d := 5) (by omega) (by decide) (by decide)) ?_
          refine v_iconst C dL_isDone_880 (v := 2) (by decide) ?_
          refine v_irem C dL_isDone_881 (by decide) ?_
          refine v_int (b := nI (dr / 5 % 2)) (pk_rem (d := 2) (by omega) (by decide) (by decide)) ?_
          refine v_iadd C dL_isDone_882 ?_
          refine v_goto C 913 dL_isDone_883 (by decide) ?_
          exact K _ ⟨36 + dr / 5 % 2, by have := Nat.mod_lt (dr / 5) (show 0 < 2 by decide); omega, nI_add 36 _⟩
end DT
