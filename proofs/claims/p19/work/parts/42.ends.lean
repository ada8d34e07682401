/-! ===== the law: the end of a record ===== -/
theorem wwL_ends_k99 : Cond.constantLong RL 99 (5) ∈ wsL_ends := by decide +kernel
theorem wwL_ends_k159 : Cond.constantLong RL 159 (13) ∈ wsL_ends := by decide +kernel
theorem drop_rl {cur : List Rl} {i : Nat} (h : i < cur.length) : cur.drop i = cur.getD i rl0 :: cur.drop (i + 1) := dropc rl0 h
theorem set_take {cur : List Rl} {i : Nat} (R : Rl) (h : i < cur.length) : (cur.set i R).take (i + 1) = cur.take i ++ [R] := by
  rw [List.take_add_one, List.take_set_of_le (Nat.le_refl _), List.getElem?_set_self h]
  rfl
theorem set_drop {cur : List Rl} {i : Nat} (R : Rl) : (cur.set i R).drop (i + 1) = cur.drop (i + 1) := by rw [List.drop_set_of_lt (Nat.lt_succ_self i)]
theorem set_all {cur : List Rl} {i : Nat} (R : Rl) (h : i < cur.length) : cur.set i R = cur.take i ++ R :: cur.drop (i + 1) := by
  rw [← set_drop R, ← List.singleton_append, ← List.append_assoc, ← set_take R h, List.take_append_drop]
theorem nWS_fnd {X X' : Nat → Nat → Int32} {Y : Nat → Nat → Int64} {w : WS} {d : Int32} (h : nWS X Y w) (h2 : X' 5 2 = X 5 2 + d) (ho : ∀ j, j ≠ 2 → X' 5 j = X 5 j) (hc : ich [1, 5] X X') : nWS X' Y (w.1, w.2.1, w.2.2.1, w.2.2.2 + d) := ⟨h.1.ch hc (by decide), h.2.1.ch (ho 4 (by decide)) (hc 6 (by decide)) rfl rfl, h.2.2.1.ch (ho 5 (by decide)) rfl, by rw [h2, h.2.2.2]⟩
theorem nE_fnd {X X' : Nat → Nat → Int32} {Y : Nat → Nat → Int64} {sep rnum : Int32} {typ : List Int32} {rls : List Rl} (h : nE X Y sep rnum typ rls) (ho : ∀ j, j ≠ 2 → X' 5 j = X 5 j) (hc : ich [1, 5] X X') : nE X' Y sep rnum typ rls := h.ch (ho 0 (by decide)) (ho 1 (by decide)) (ho 3 (by decide)) (hc 3 (by decide)) (hc 4 (by decide)) rfl
section NZ
variable {l : Launch} {D : va_G} {tys : List (ClassId × FieldType)} {z0 : Nat} {A : Nat → Prop} {σ0 : Type} {pic0 : σ0 → Heap → Prop} {cI cJ : ClassId} {ad al : Nat → Nat} {y0 : σ0} {X : Nat → Nat → Int32} {Y : Nat → Nat → Int64}
set_option maxRecDepth 100000 in
set_option maxHeartbeats 16000000 in
theorem n_ends (ht1 : tys[1]? = some (cI, .int)) (ht6 : tys[6]? = some (cJ, .long)) {S : aS} (hA : nA X Y S) (hk : okS S) (hn : ∃ N, N + 1 < 1000000000 ∧ S.2.1 = nI N) : ct D tys z0 A (picN pic0 cI cJ ad al A) l yL_ends wsL_ends (rmL 5 126) [.ref (ad 0), .ref (ad 1), .ref (ad 2), .ref (ad 3), .ref (ad 4), .ref (al 0), .ref (ad 5), .ref (ad 6), .ref (al 1), .ref (al 2), .ref (al 3)] (y0, X, Y) (qI (picN pic0 cI cJ ad al A) A (fun q x => ∃ X' Y', x = (y0, X', Y') ∧ q = (opEnd S).2.1 ∧ nA X' Y' (opEnd S).2.2)) := by
  obtain ⟨sep, rnum, typ, w, rls⟩ := S
  unfold opEnd
  obtain ⟨⟨e0, e1, e3, eR⟩, eW⟩ := hA
  obtain ⟨k0, k1, k2⟩ := hk
  obtain ⟨N, hN, hN2⟩ := hn
  dsimp only at e0 e1 e3 eR eW k0 k1 k2 hN2 ⊢
  obtain ⟨rn, hrn⟩ : ∃ rn, rnum + 1 = rn := ⟨_, rfl⟩
  have hn1 : ∃ N, N < 1000000000 ∧ rn = nI N := ⟨N + 1, hN, by rw [← hrn, hN2, nI_1]⟩
  rw [hrn]
  obtain ⟨F, hF⟩ : ∃ F, rulesS sep rn rls 0 (typ, w.2) 0 = F := ⟨_, rfl⟩
  rw [hF]
  refine ct_of RL (by decide +kernel) rfl rfl (Nat.le_of_ble_eq_true rfl) ?_
  intro p e s m below meth c C hr hm
  refine v_lv (lv' := [(0, _), (1, _), (2, _), (3, _), (4, _), (5, _), (6, _), (7, _), (8, _), (9, _), (10, _)]) rfl ?_
  refine v_aload_n C dL_ends_0 (j := 0) rfl rfl ?_
  refine v_bipush C dL_ends_1 (v := 60) (by decide) ?_
  refine v_iconst C dL_ends_3 (v := 0) (by decide) ?_
  refine v_iast C dL_ends_4 1 ht1 (by unfold vp_in; decide) (N_st (j := 0) (by decide) _) ?_
  obtain ⟨X1, hX1, c1, m1⟩ : ∃ X1, X1 = va_up X 0 (upd (X 0) (60 : Int32).toNatClampNeg 0) ∧ ich [0] X X1 ∧ nT 0 X1 [] := ⟨_, rfl, ich_u (by decide) _, nT_0⟩
  rw [← hX1]
  clear hX1
  have t1 := e3.ch c1 (by decide)
  refine v_aload_n C dL_ends_5 (j := 3) rfl rfl ?_
  refine v_iconst C dL_ends_6 (v := 0) (by decide) ?_
  refine v_aload_n C dL_ends_7 (j := 3) rfl rfl ?_
  refine v_bipush C dL_ends_8 (v := 60) (by decide) ?_
  refine v_iald C dL_ends_10 1 ht1 (N_t (j := 3) (by decide)) (by unfold vp_in; decide) ?_
  refine v_int (b := nI typ.length) t1.1 ?_
  refine v_aload_n C dL_ends_11 (j := 0) rfl rfl ?_
  refine v_cv (v_runS C (n_copies (i := 3) (j := 0) ht1 (by decide) (by decide) (by decide) t1 (str_all _) m1) (va_cwS 4 C.1.2.2.2.2 gL_ends_L_copies rfl rfl rfl (by decide +kernel) ⟨Nat.le_of_ble_eq_true rfl, Nat.le_of_ble_eq_true rfl⟩) rfl dL_ends_12 (rest := []) (Nat.le_of_ble_eq_true rfl) rfl ⟨(by first | exact Nat.le_of_ble_eq_true rfl | (dsimp only; omega)), (by first | exact Nat.le_of_ble_eq_true rfl | (dsimp only; omega))⟩) (fun x' hx' => ?_)
  obtain ⟨X2, rfl, m2, c2⟩ := hx'
  rw [app60_0 e3.2.1] at m2
  refine v_aload_n C dL_ends_15 (j := 3) rfl rfl ?_
  refine v_bipush C dL_ends_16 (v := 60) (by decide) ?_
  refine v_iconst C dL_ends_18 (v := 0) (by decide) ?_
  refine v_iast C dL_ends_19 1 ht1 (by unfold vp_in; decide) (N_st (j := 3) (by decide) _) ?_
  obtain ⟨X3, hX3, c3, m3⟩ : ∃ X3, X3 = va_up X2 3 (upd (X2 3) (60 : Int32).toNatClampNeg 0) ∧ ich [3] X2 X3 ∧ nT 3 X3 [] := ⟨_, rfl, ich_u (by decide) _, nT_0⟩
  rw [← hX3]
  clear hX3
  have c03 : ich [0, 3] X X3 := (c1.mo (by decide)).tr ((c2.mo (by decide)).tr (c3.mo (by decide)))
  refine v_aload C dL_ends_20 (j := 6) rfl ?_
  refine v_iconst C dL_ends_22 (v := 1) (by decide) ?_
  refine v_dup2 C dL_ends_23 rfl rfl ?_
  refine v_iald C dL_ends_24 1 ht1 N_g (by unfold vp_in; decide) ?_
  refine v_int (b := rnum) ((congrFun (c03 5 (by decide)) 1).trans e1) ?_
  refine v_iconst C dL_ends_25 (v := 1) (by decide) ?_
  refine v_iadd C dL_ends_26 ?_
  refine v_int (b := rn) hrn ?_
  refine v_iast C dL_ends_27 1 ht1 (by unfold vp_in; decide) (N_sg _) ?_
  obtain ⟨X4, hX4, d1, do9, dc⟩ : ∃ X4, X4 = va_up X3 5 (upd (X3 5) (1 : Int32).toNatClampNeg rn) ∧ X4 5 1 = rn ∧ (∀ j, j ≠ 1 → X4 5 j = X 5 j) ∧ ich [5] X3 X4 := ⟨_, rfl, by rw [va_up_same]; rfl, fun j hj => by rw [va_up_same]; exact (if_neg hj).trans (congrFun (c03 5 (by decide)) j), ich_u (by decide) _⟩
  rw [← hX4]
  clear hX4
  have c04 : ich [0, 3, 5] X X4 := (c03.mo (by decide)).tr (dc.mo (by decide))
  refine v_iconst C dL_ends_28 (v := 0) (by decide) ?_
  refine v_istore C dL_ends_29 (by decide) (lv' := [(11, _), (0, _), (1, _), (2, _), (3, _), (4, _), (5, _), (6, _), (7, _), (8, _), (9, _), (10, _)]) rfl ?_
  refine v_iconst C dL_ends_31 (v := 0) (by decide) ?_
  refine v_istore C dL_ends_32 (by decide) (lv' := [(12, _), (11, _), (0, _), (1, _), (2, _), (3, _), (4, _), (5, _), (6, _), (7, _), (8, _), (9, _), (10, _)]) rfl ?_
  obtain ⟨i, tk, cur, w1, X5, Y5, hi, htk, hX5, hY5, hG, hE, hW, hok, hil⟩ : ∃ (i : Nat) (tk : Int32) (cur : List Rl) (w1 : WS) (X5 : Nat → Nat → Int32) (Y5 : Nat → Nat → Int64), i = 0 ∧ tk = 0 ∧ X5 = X4 ∧ Y5 = Y ∧ F = ((rulesS sep rn (cur.drop i) i w1 tk).1, cur.take i ++ (rulesS sep rn (cur.drop i) i w1 tk).2.1, (rulesS sep rn (cur.drop i) i w1 tk).2.2) ∧ nE X5 Y5 sep rn [] cur ∧ nWS X5 Y5 w1 ∧ okW w1 ∧ i ≤ cur.length := ⟨0, 0, rls, (typ, w.2), X4, Y, rfl, rfl, rfl, rfl, by rw [List.drop_zero, List.take_zero, hF]; rfl, ⟨by rw [do9 0 (by decide)]; exact e0, d1, m3.ch dc (by decide), eR.ch (do9 3 (by decide)) (c04 4 (by decide)) rfl⟩, ⟨(m2.ch c3 (by decide)).ch dc (by decide), eW.2.1.ch (do9 4 (by decide)) (c04 6 (by decide)) rfl rfl, eW.2.2.1.ch (do9 5 (by decide)) rfl, by rw [do9 2 (by decide)]; exact eW.2.2.2⟩, ⟨k1, e3.2.1, k2.2.2.1, k2.2.2.2.1, k2.2.2.2.2⟩, Nat.zero_le _⟩
  refine v_x (x' := (y0, X5, Y5)) (fun H hP => by rw [hX5, hY5]; exact hP) ?_
  refine v_lv (lv' := [(12, .int (nI i)), (11, .int tk), (0, _), (1, _), (2, _), (3, _), (4, _), (5, _), (6, _), (7, _), (8, _), (9, _), (10, _)]) (by rw [hi, htk]; rfl) ?_
  clear hi htk hX5 hY5 hF eR eW e0 e1 e3 k1 k2 c1 m1 t1 c2 m2 c3 m3 c03 d1 do9 dc c04
  induction hd : (cur.length - i) using Nat.strongRecOn generalizing i tk cur w1 X5 Y5 with | _ d ih =>
    obtain ⟨f0, f1, f3, g3, g8, gR, g0⟩ := hE
    refine v_iload C dL_ends_34 (j := 0) rfl ?_
    refine v_aload C dL_ends_36 (j := 8) rfl ?_
    refine v_iconst C dL_ends_38 (v := 3) (by decide) ?_
    refine v_iald C dL_ends_39 1 ht1 N_g (by unfold vp_in; decide) ?_
    refine v_int (b := nI cur.length) g3 ?_
    refine v_icmp_ge C 238 dL_ends_40 (by decide) (fun c1 => ?_) (fun c1 => ?_)
    · skip
      have c2 : i = cur.length := by have := le_of c1 (by omega) (by omega); omega
      rw [c2, List.drop_length, List.take_length] at hG
      refine v_iload C dL_ends_238 (j := 1) rfl ?_
      exact v_ireturn C dL_ends_240 hr (rfl) (Nat.le_of_ble_eq_true rfl) (Nat.le_of_ble_eq_true rfl) (⟨X5, Y5, rfl, by rw [hG]; rfl, by rw [hG]; exact ⟨⟨f0, f1, f3, by show nRu X5 Y5 (cur ++ []); rw [List.append_nil]; exact ⟨g3, g8, gR, g0⟩⟩, hW⟩⟩)
    · skip
      have c2 : i < cur.length := lt_ofn c1 (by omega) (by omega)
      obtain ⟨q0, q1, q2, q3, q4, q6, qp, qk, qa⟩ := gR i c2
      obtain ⟨R, hR⟩ : ∃ R, cur.getD i rl0 = R := ⟨_, rfl⟩
      have hdr := drop_rl c2
      rw [hR] at q0 q1 q2 q3 q4 q6 qp qk qa hdr
      rw [hdr] at hG
      refine v_aload_n C dL_ends_43 (j := 2) rfl rfl ?_
      refine v_aload C dL_ends_44 (j := 8) rfl ?_
      refine v_aload C dL_ends_46 (j := 6) rfl ?_
      refine v_iload C dL_ends_48 (j := 0) rfl ?_
      refine v_ci (v_runS C (n_isTrue (i := i) ht1 hW.1 hok.1 f0 (by omega) q0 q1 q2 q3 qp qk) (va_cwS 4 C.1.2.2.2.2 gL_ends_L_isTrue rfl rfl rfl (by decide +kernel) ⟨Nat.le_of_ble_eq_true rfl, Nat.le_of_ble_eq_true rfl⟩) rfl dL_ends_50 (rest := []) (Nat.le_of_ble_eq_true rfl) rfl ⟨(by first | exact Nat.le_of_ble_eq_true rfl | (dsimp only; omega)), (by first | exact Nat.le_of_ble_eq_true rfl | (dsimp only; omega))⟩) (fun q x' hx' => ?_)
      obtain ⟨X6, rfl, rfl, s1, s2, s3⟩ := hx'
      have hRu6 := nRu_open (o := patO R.1.1 R.1.2.1 R.1.2.2 R.2.1 (fld sep w1.1)) (X' := X6) (Y := Y5) ⟨g3, g8, gR, g0⟩ c2 (congrFun (s3 5 (by decide)) 3) s1 s2
      rw [hR] at hRu6
      obtain ⟨R9, hR9⟩ : ∃ R9 : Rl, (R.1, patO R.1.1 R.1.2.1 R.1.2.2 R.2.1 (fld sep w1.1), R.2.2) = R9 := ⟨_, rfl⟩
      obtain ⟨cur2, hcur2⟩ : ∃ cur2, cur.set i R9 = cur2 := ⟨_, rfl⟩
      rw [hR9, hcur2] at hRu6
      have hl2 : cur2.length = cur.length := by rw [← hcur2, List.length_set]
      have ht2 : cur2.take (i + 1) = cur.take i ++ [R9] := by rw [← hcur2]; exact set_take R9 c2
      have hd2 : cur2.drop (i + 1) = cur.drop (i + 1) := by rw [← hcur2]; exact set_drop R9
      have ha2 : cur2 = cur.take i ++ R9 :: cur.drop (i + 1) := by rw [← hcur2]; exact set_all R9 c2
      have hE6 : nE X6 Y5 sep rn [] cur2 := ⟨(congrFun (s3 5 (by decide)) 0).trans f0, (congrFun (s3 5 (by decide)) 1).trans f1, f3.ch s3 (by decide), hRu6⟩
      have hW6 : nWS X6 Y5 w1 := ⟨hW.1.ch s3 (by decide), hW.2.1.ch (congrFun (s3 5 (by decide)) 4) (s3 6 (by decide)) rfl rfl, hW.2.2.1.ch (congrFun (s3 5 (by decide)) 5) rfl, (congrFun (s3 5 (by decide)) 2).trans hW.2.2.2⟩
      refine v_if_eq C 232 dL_ends_53 (by decide) (fun c3 => ?_) (fun c3 => ?_)
      · skip
        have hpt := bI_0 c3
        rw [rulesS_f hpt, hR9] at hG
        refine v_iinc C dL_ends_232 (j := 0) (v := _ + 1) rfl rfl (by decide) (lv' := [(12, _), (11, _), (0, _), (1, _), (2, _), (3, _), (4, _), (5, _), (6, _), (7, _), (8, _), (9, _), (10, _)]) rfl ?_
        refine v_goto C 34 dL_ends_235 (by decide) ?_
        rw [nI_1]
        refine ih (cur2.length - (i + 1)) (by omega) (i + 1) tk cur2 w1 X6 Y5 ?_ hE6 hW6 hok (by omega) rfl
        rw [hG, hd2, ht2, List.append_assoc]
        rfl
      · skip
        have hpt := bI_1 c3
        refine v_iload C dL_ends_56 (j := 1) rfl ?_
        refine v_iconst C dL_ends_58 (v := 1) (by decide) ?_
        refine v_iload C dL_ends_59 (j := 0) rfl ?_
        refine v_ishl C dL_ends_61 ?_
        refine v_ior C dL_ends_62 ?_
        refine v_istore C dL_ends_63 (by decide) (lv' := [(11, _), (12, _), (0, _), (1, _), (2, _), (3, _), (4, _), (5, _), (6, _), (7, _), (8, _), (9, _), (10, _)]) rfl ?_
        refine v_bipush C dL_ends_65 (v := 6) (by decide) ?_
        refine v_iload C dL_ends_67 (j := 1) rfl ?_
        refine v_imul C dL_ends_69 ?_
        refine v_int (b := nI (6 * i)) (by rw [show (6 : Int32) = nI 6 from rfl, nI_mul]) ?_
        refine v_istore C dL_ends_70 (by decide) (lv' := [(13, _), (11, _), (12, _), (0, _), (1, _), (2, _), (3, _), (4, _), (5, _), (6, _), (7, _), (8, _), (9, _), (10, _)]) rfl ?_
        obtain ⟨j, w2, X7, Y7, hj, hX7, hY7, hac, hE7, hW7, hok7, hjl⟩ : ∃ (j : Nat) (w2 : WS) (X7 : Nat → Nat → Int32) (Y7 : Nat → Nat → Int64), j = 0 ∧ X7 = X6 ∧ Y7 = Y5 ∧ actsS sep rn R.2.2 w1 = actsS sep rn (R.2.2.drop j) w2 ∧ nE X7 Y7 sep rn [] cur2 ∧ nWS X7 Y7 w2 ∧ okW w2 ∧ j ≤ R.2.2.length := ⟨0, w1, X6, Y5, rfl, rfl, rfl, rfl, hE6, hW6, hok, Nat.zero_le _⟩
        refine v_x (x' := (y0, X7, Y7)) (fun H hP => by rw [hX7, hY7]; exact hP) ?_
        refine v_lv (lv' := [(13, .int (nI (6 * i + j))), (11, _), (12, _), (0, _), (1, _), (2, _), (3, _), (4, _), (5, _), (6, _), (7, _), (8, _), (9, _), (10, _)]) (by rw [hj]; rfl) ?_
        clear hj hX7 hY7
        induction hdj : (R.2.2.length - j) using Nat.strongRecOn generalizing j w2 X7 Y7 with | _ dj ihj =>
          obtain ⟨f0, f1, f3, fR⟩ := hE7
          obtain ⟨q0, q1, q2, q3, q4, q6, qp, qk, qa⟩ := fR.2.2.1 i (by omega)
          have hgi : cur2.getD i rl0 = R9 := by rw [← hcur2, rl_set _ c2, if_pos rfl]
          have hR92 : R9.2.2 = R.2.2 := by rw [← hR9]
          rw [hgi, hR92] at q4 qa
          refine v_iload C dL_ends_72 (j := 0) rfl ?_
          refine v_bipush C dL_ends_74 (v := 6) (by decide) ?_
          refine v_iload C dL_ends_76 (j := 2) rfl ?_
          refine v_imul C dL_ends_78 ?_
          refine v_int (b := nI (6 * i)) (by rw [show (6 : Int32) = nI 6 from rfl, nI_mul]) ?_
          refine v_aload C dL_ends_79 (j := 7) rfl ?_
          refine v_iconst C dL_ends_81 (v := 5) (by decide) ?_
          refine v_iload C dL_ends_82 (j := 2) rfl ?_
          refine v_imul C dL_ends_84 ?_
          refine v_iconst C dL_ends_85 (v := 4) (by decide) ?_
          refine v_iadd C dL_ends_86 ?_
          refine v_int (b := nI (5 * i + 4)) (q5 i 4) ?_
          refine v_iald C dL_ends_87 1 ht1 N_q (vp_in_nI (by show 5 * i + 4 < 40; omega) (by decide)) ?_
          refine v_int (b := nI R.2.2.length) (by rw [nI_clamp (by omega)]; exact q4) ?_
          refine v_iadd C dL_ends_88 ?_
          rw [nI_add]
          refine v_icmp_ge C 232 dL_ends_89 (by decide) (fun c4 => ?_) (fun c4 => ?_)
          · skip
            have c5 : j = R.2.2.length := by have := le_of c4 (by omega) (by omega); omega
            rw [c5, List.drop_length] at hac
            rw [rulesS_t hpt (by rw [hac]; rfl), hac, hR9] at hG
            refine v_iinc C dL_ends_232 (j := 2) (v := _ + 1) rfl rfl (by decide) (lv' := [(12, _), (13, _), (11, _), (0, _), (1, _), (2, _), (3, _), (4, _), (5, _), (6, _), (7, _), (8, _), (9, _), (10, _)]) rfl ?_
            refine v_goto C 34 dL_ends_235 (by decide) ?_
            rw [nI_1]
            refine v_lv (lv' := [(12, .int (nI (i + 1))), (13, _), (11, .int (tk ||| (1 <<< (nI i &&& 31)))), (0, _), (1, _), (2, _), (3, _), (4, _), (5, _), (6, _), (7, _), (8, _), (9, _), (10, _)]) rfl ?_
            refine v_sub [0, 2, 3, 4, 5, 6, 7, 8, 9, 10, 11, 12, 13] rfl ?_
            refine ih (cur2.length - (i + 1)) (by omega) (i + 1) (tk ||| (1 <<< (nI i &&& 31))) cur2 w2 X7 Y7 ?_ ⟨f0, f1, f3, fR⟩ hW7 hok7 (by omega) rfl
            rw [hG, hd2, ht2, List.append_assoc]
            rfl
          · skip
            have c5 : j < R.2.2.length := by have := lt_ofn c4 (by omega) (by omega); omega
            obtain ⟨hc, hY⟩ := qa j c5
            obtain ⟨c, hc9⟩ : ∃ c, R.2.2.getD j ac0 = c := ⟨_, rfl⟩
            have hdc : R.2.2.drop j = c :: R.2.2.drop (j + 1) := by rw [← hc9]; exact dropc ac0 c5
            rw [hc9] at hc hY
            rw [hdc] at hac
            obtain ⟨p1, pk, pf, pf12, -, -, -⟩ := pkA_of hc
            have hokc := okW_act hok7 k0 hn1 hc
            have hx0 := hc.2.2.2.1
            obtain ⟨P, hP⟩ : ∃ P, pkA c = P := ⟨_, rfl⟩
            have hY2 := hY
            rw [hP] at p1 pk pf pf12 hY2
            have hkd5 : P % 5 < 5 := Nat.mod_lt _ (by decide)
            obtain ⟨kd, hkd⟩ : ∃ kd, P % 5 = kd := ⟨_, rfl⟩
            obtain ⟨kf, hkf⟩ : ∃ kf, P / 5 % 13 = kf := ⟨_, rfl⟩
            rw [hkd] at pk hkd5
            rw [hkf] at pf pf12
            have hff : c.2.1.toNatClampNeg = kf := by rw [pf, nI_clamp (by omega)]
            refine v_cutX (pcj := 226) (fun w : (Nat → Nat → Int32) × (Nat → Nat → Int64) => (y0, w.1, w.2)) (fun _ => [(13, .int (nI (6 * i + j))), (11, .int (tk ||| (1 <<< (nI i &&& 31)))), (12, .int (nI i)), (0, .ref (ad 0)), (1, .ref (ad 1)), (2, .ref (ad 2)), (3, .ref (ad 3)), (4, .ref (ad 4)), (5, .ref (al 0)), (6, .ref (ad 5)), (7, .ref (ad 6)), (8, .ref (al 1)), (9, .ref (al 2)), (10, .ref (al 3))]) (fun _ => []) (fun w => c.1 ≠ 4 ∧ nE w.1 w.2 sep rn [] cur2 ∧ nWS w.1 w.2 (actS sep rn w2 c)) (fun w hw => ?_) (fun K => ?_)
            · skip
              obtain ⟨X8, Y8⟩ := w
              obtain ⟨w4, w5, w6⟩ := hw
              dsimp only at w5 w6
              refine v_iinc C dL_ends_226 (j := 0) (v := _ + 1) rfl rfl (by decide) (lv' := [(13, _), (11, _), (12, _), (0, _), (1, _), (2, _), (3, _), (4, _), (5, _), (6, _), (7, _), (8, _), (9, _), (10, _)]) rfl ?_
              refine v_goto C 72 dL_ends_229 (by decide) ?_
              rw [nI_1]
              refine ihj (R.2.2.length - (j + 1)) (by omega) (j + 1) (actS sep rn w2 c) X8 Y8 ?_ w5 w6 hokc (by omega) rfl
              rw [hac]
              conv => lhs; unfold actsS
              rw [if_neg w4]
            · skip
              refine v_aload C dL_ends_92 (j := 8) rfl ?_
              refine v_iload C dL_ends_94 (j := 0) rfl ?_
              refine v_lald C dL_ends_96 6 ht6 N_a (vp_in_nI (by show 6 * i + j < 48; omega) (by decide)) ?_
              refine v_long (b := lN P) (by rw [nI_clamp (by omega)]; exact hY2) ?_
              refine v_ldc2 C dL_ends_97 (v := (5)) wwL_ends_k99 ?_
              refine v_lrem C dL_ends_100 (by decide) ?_
              refine v_long (b := lN kd) (by rw [show (5 : Int64) = lN 5 from rfl, pk_lRem (by omega) (by decide) (by decide), hkd]) ?_
              refine v_l2i C dL_ends_101 ?_
              rw [lN_i]
              refine v_istore C dL_ends_102 (by decide) (lv' := [(14, _), (13, _), (11, _), (12, _), (0, _), (1, _), (2, _), (3, _), (4, _), (5, _), (6, _), (7, _), (8, _), (9, _), (10, _)]) rfl ?_
              refine v_aload C dL_ends_104 (j := 9) rfl ?_
              refine v_iload C dL_ends_106 (j := 1) rfl ?_
              refine v_lald C dL_ends_108 6 ht6 N_a (vp_in_nI (by show 6 * i + j < 48; omega) (by decide)) ?_
              refine v_long (b := lN P) (by rw [nI_clamp (by omega)]; exact hY2) ?_
              refine v_ldc2 C dL_ends_109 (v := (5)) wwL_ends_k99 ?_
              refine v_ldiv C dL_ends_112 (by decide) ?_
              refine v_ldc2 C dL_ends_113 (v := (13)) wwL_ends_k159 ?_
              refine v_lrem C dL_ends_116 (by decide) ?_
              refine v_long (b := lN kf) (by rw [show (5 : Int64) = lN 5 from rfl, show (13 : Int64) = lN 13 from rfl, pk_lDiv (by omega) (by decide) (by decide), pk_lRem (Nat.lt_of_le_of_lt (Nat.div_le_self _ _) (by omega)) (by decide) (by decide), hkf]) ?_
              refine v_l2i C dL_ends_117 ?_
              rw [lN_i]
              by_cases h4 : kd = 4
              · skip
                have hc4 : c.1 = 4 := by rw [pk, h4]; rfl
                refine v_istore C dL_ends_118 (by decide) (lv' := [(15, _), (14, _), (13, _), (11, _), (12, _), (0, _), (1, _), (2, _), (3, _), (4, _), (5, _), (6, _), (7, _), (8, _), (9, _), (10, _)]) rfl ?_
                refine v_iload C dL_ends_120 (j := 1) rfl ?_
                refine v_iconst C dL_ends_122 (v := 4) (by decide) ?_
                refine v_icmp_ne C 129 dL_ends_123 (by decide) (fun b1 => absurd b1 (fun q => q (by rw [h4]; rfl))) (fun b1 => ?_)
                refine v_iload C dL_ends_126 (j := 3) rfl ?_
                have hac2 : actsS sep rn R.2.2 w1 = (false, w2) := by rw [hac]; unfold actsS; rw [if_pos hc4]
                rw [rulesS_s hpt (by rw [hac2]), hac2, hR9] at hG
                exact v_ireturn C dL_ends_128 hr (rfl) (Nat.le_of_ble_eq_true rfl) (Nat.le_of_ble_eq_true rfl) (⟨X7, Y7, rfl, by rw [hG], by rw [hG]; exact ⟨⟨f0, f1, f3, by show nRu X7 Y7 (cur.take i ++ R9 :: cur.drop (i + 1)); rw [← ha2]; exact fR⟩, hW7⟩⟩)
              · skip
                have hc4 : c.1 ≠ 4 := fun q => h4 (by rw [pk] at q; have := congrArg Int32.toNatClampNeg q; rw [nI_clamp (by omega)] at this; exact this)
                refine v_istore C dL_ends_118 (by decide) (lv' := [(15, _), (14, _), (13, _), (11, _), (12, _), (0, _), (1, _), (2, _), (3, _), (4, _), (5, _), (6, _), (7, _), (8, _), (9, _), (10, _)]) rfl ?_
                refine v_iload C dL_ends_120 (j := 1) rfl ?_
                refine v_iconst C dL_ends_122 (v := 4) (by decide) ?_
                refine v_icmp_ne C 129 dL_ends_123 (by decide) (fun b1 => ?_) (fun b1 => absurd b1 (fun q => h4 (by have := congrArg Int32.toNatClampNeg q; rw [nI_clamp (by omega)] at this; exact this)))
                refine v_iload C dL_ends_129 (j := 1) rfl ?_
                refine v_iconst C dL_ends_131 (v := 3) (by decide) ?_
                by_cases h3 : kd = 3
                · skip
                  have hc3 : c.1 = 3 := by rw [pk, h3]; rfl
                  refine v_icmp_ne C 139 dL_ends_132 (by decide) (fun b2 => absurd b2 (fun q => q (by rw [h3]; rfl))) (fun b2 => ?_)
                  refine v_iconst C dL_ends_135 (v := 0) (by decide) ?_
                  refine v_goto C 150 dL_ends_136 (by decide) ?_
                  refine v_istore C dL_ends_150 (by decide) (lv' := [(16, _), (15, _), (14, _), (13, _), (11, _), (12, _), (0, _), (1, _), (2, _), (3, _), (4, _), (5, _), (6, _), (7, _), (8, _), (9, _), (10, _)]) rfl ?_
                  refine v_iload C dL_ends_152 (j := 2) rfl ?_
                  refine v_if_ne C 170 dL_ends_154 (by decide) (fun b3 => ?_) (fun b3 => absurd b3 (fun q => absurd q (by rw [h3]; decide)))
                  refine v_iload C dL_ends_170 (j := 2) rfl ?_
                  refine v_iconst C dL_ends_172 (v := 1) (by decide) ?_
                  refine v_icmp_ne C 195 dL_ends_173 (by decide) (fun b4 => ?_) (fun b4 => absurd b4 (fun q => absurd q (by rw [h3]; decide)))
                  refine v_iload C dL_ends_195 (j := 2) rfl ?_
                  refine v_iconst C dL_ends_197 (v := 2) (by decide) ?_
                  refine v_icmp_ne C 212 dL_ends_198 (by decide) (fun b5 => ?_) (fun b5 => absurd b5 (fun q => absurd q (by rw [h3]; decide)))
                  refine v_aload_n C dL_ends_212 (j := 6) rfl rfl ?_
                  refine v_aload C dL_ends_213 (j := 12) rfl ?_
                  refine v_aload C dL_ends_215 (j := 13) rfl ?_
                  refine v_aload C dL_ends_217 (j := 14) rfl ?_
                  refine v_aload C dL_ends_219 (j := 15) rfl ?_
                  refine v_iload C dL_ends_221 (j := 1) rfl ?_
                  refine v_cv (v_runS C (n_drops ht1 ht6 hW7.1 hok7.1 f0 (k9 := kf) pf12 hW7.2.1 hok7.2.2.1 hok7.2.2.2.1) (va_cwS 6 C.1.2.2.2.2 gL_ends_L_drops rfl rfl rfl (by decide +kernel) ⟨Nat.le_of_ble_eq_true rfl, Nat.le_of_ble_eq_true rfl⟩) rfl dL_ends_223 (rest := []) (Nat.le_of_ble_eq_true rfl) rfl ⟨(by first | exact Nat.le_of_ble_eq_true rfl | (dsimp only; omega)), (by first | exact Nat.le_of_ble_eq_true rfl | (dsimp only; omega))⟩) (fun x' hx' => ?_)
                  obtain ⟨X8, Y8, rfl, u1, u2, u3, u4⟩ := hx'
                  refine v_sub [3, 4, 5, 6, 7, 8, 9, 10, 11, 12, 13, 14, 15, 16] rfl ?_
                  refine v_sub [0, 1, 2, 3, 4, 5, 6, 7, 8, 9, 10, 11, 12, 13] rfl ?_
                  exact K (X8, Y8) ⟨hc4, nE.ch ⟨f0, f1, f3, fR⟩ (u2 0 (by decide)) (u2 1 (by decide)) (u2 3 (by decide)) (u3 3 (by decide)) (u3 4 (by decide)) (u4 0 (by decide) (by decide)), by
                    unfold actS
                    rw [if_pos hc3, hff]
                    exact ⟨hW7.1.ch u3 (by decide), u1, hW7.2.2.1.ch (u2 5 (by decide)) (u4 3 (by decide) (by decide)), (u2 2 (by decide)).trans hW7.2.2.2⟩⟩
                · skip
                  have hc3 : c.1 ≠ 3 := fun q => h3 (by rw [pk] at q; have := congrArg Int32.toNatClampNeg q; rw [nI_clamp (by omega)] at this; exact this)
                  refine v_icmp_ne C 139 dL_ends_132 (by decide) (fun b2 => ?_) (fun b2 => absurd b2 (fun q => h3 (by have := congrArg Int32.toNatClampNeg q; rw [nI_clamp (by omega)] at this; exact this)))
                  refine v_aload_n C dL_ends_139 (j := 5) rfl rfl ?_
                  refine v_aload_n C dL_ends_140 (j := 6) rfl rfl ?_
                  refine v_aload C dL_ends_141 (j := 11) rfl ?_
                  refine v_aload C dL_ends_143 (j := 10) rfl ?_
                  refine v_iload C dL_ends_145 (j := 2) rfl ?_
                  refine v_ci (v_runS C (n_finds ht1 ht6 hW7.1 f0 f1 hn1 (i := 6 * i + j) (by omega) hc hY) (va_cwS 5 C.1.2.2.2.2 gL_ends_L_finds rfl rfl rfl (by decide +kernel) ⟨Nat.le_of_ble_eq_true rfl, Nat.le_of_ble_eq_true rfl⟩) rfl dL_ends_147 (rest := []) (Nat.le_of_ble_eq_true rfl) rfl ⟨(by first | exact Nat.le_of_ble_eq_true rfl | (dsimp only; omega)), (by first | exact Nat.le_of_ble_eq_true rfl | (dsimp only; omega))⟩) (fun q x' hx' => ?_)
                  obtain ⟨X8, rfl, u1, rfl, u2, u3, u4⟩ := hx'
                  have hE8 := nE_fnd (sep := sep) (rnum := rn) (typ := []) (rls := cur2) ⟨f0, f1, f3, fR⟩ u3 u4
                  have hW8 := nWS_fnd hW7 u2 u3 u4
                  obtain ⟨f0, f1, f3, fR⟩ := hE8
                  refine v_istore C dL_ends_150 (by decide) (lv' := [(16, _), (15, _), (14, _), (13, _), (11, _), (12, _), (0, _), (1, _), (2, _), (3, _), (4, _), (5, _), (6, _), (7, _), (8, _), (9, _), (10, _)]) rfl ?_
                  refine v_iload C dL_ends_152 (j := 2) rfl ?_
                  by_cases h0 : kd = 0
                  · skip
                    have hc0 : c.1 = 0 := by rw [pk, h0]; rfl
                    refine v_if_ne C 170 dL_ends_154 (by decide) (fun b3 => absurd b3 (fun q => q (by rw [h0]; rfl))) (fun b3 => ?_)
                    refine v_aload_n C dL_ends_157 (j := 6) rfl rfl ?_
                    refine v_aload_n C dL_ends_158 (j := 7) rfl rfl ?_
                    refine v_aload_n C dL_ends_159 (j := 8) rfl rfl ?_
                    refine v_aload C dL_ends_160 (j := 12) rfl ?_
                    refine v_iload C dL_ends_162 (j := 1) rfl ?_
                    refine v_cv (v_runS C (n_sets ht1 hW8.1 u1 f0 (its := kf) pf12) (va_cwS 5 C.1.2.2.2.2 gL_ends_L_sets rfl rfl rfl (by decide +kernel) ⟨Nat.le_of_ble_eq_true rfl, Nat.le_of_ble_eq_true rfl⟩) rfl dL_ends_164 (rest := []) (Nat.le_of_ble_eq_true rfl) rfl ⟨(by first | exact Nat.le_of_ble_eq_true rfl | (dsimp only; omega)), (by first | exact Nat.le_of_ble_eq_true rfl | (dsimp only; omega))⟩) (fun x' hx' => ?_)
                    obtain ⟨X9, rfl, s1, s2⟩ := hx'
                    refine v_goto C 226 dL_ends_167 (by decide) ?_
                    refine v_sub [3, 4, 5, 6, 7, 8, 9, 10, 11, 12, 13, 14, 15, 16] rfl ?_
                    exact K (X9, Y7) ⟨hc4, nE.ch ⟨f0, f1, f3, fR⟩ (congrFun (s2 5 (by decide)) 0) (congrFun (s2 5 (by decide)) 1) (congrFun (s2 5 (by decide)) 3) (s2 3 (by decide)) (s2 4 (by decide)) rfl, by
                      unfold actS
                      rw [if_neg hc3, if_pos hc0, hff]
                      exact ⟨s1, hW8.2.1.ch (congrFun (s2 5 (by decide)) 4) (s2 6 (by decide)) rfl rfl, hW8.2.2.1.ch (congrFun (s2 5 (by decide)) 5) rfl, (congrFun (s2 5 (by decide)) 2).trans hW8.2.2.2⟩⟩
                  · skip
                    have hc0 : c.1 ≠ 0 := fun q => h0 (by rw [pk] at q; have := congrArg Int32.toNatClampNeg q; rw [nI_clamp (by omega)] at this; exact this)
                    refine v_if_ne C 170 dL_ends_154 (by decide) (fun b3 => ?_) (fun b3 => absurd b3 (fun q => h0 (by have := congrArg Int32.toNatClampNeg q; rw [nI_clamp (by omega)] at this; exact this)))
                    refine v_iload C dL_ends_170 (j := 2) rfl ?_
                    refine v_iconst C dL_ends_172 (v := 1) (by decide) ?_
                    by_cases h1 : kd = 1
                    · skip
                      have hc1 : c.1 = 1 := by rw [pk, h1]; rfl
                      refine v_icmp_ne C 195 dL_ends_173 (by decide) (fun b4 => absurd b4 (fun q => q (by rw [h1]; rfl))) (fun b4 => ?_)
                      refine v_aload_n C dL_ends_176 (j := 6) rfl rfl ?_
                      refine v_aload C dL_ends_177 (j := 12) rfl ?_
                      refine v_aload C dL_ends_179 (j := 13) rfl ?_
                      refine v_aload C dL_ends_181 (j := 14) rfl ?_
                      refine v_aload C dL_ends_183 (j := 15) rfl ?_
                      refine v_iload C dL_ends_185 (j := 1) rfl ?_
                      refine v_iload C dL_ends_187 (j := 0) rfl ?_
                      refine v_cv (v_runS C (n_grows ht1 ht6 hW8.1 hok7.1 f0 (k9 := kf) pf12 hW8.2.1 hok7.2.2.1 hok7.2.2.2.1 (num (exV sep w2.1 rn c.2.2.1 c.2.2.2.1 c.2.2.2.2))) (va_cwS 7 C.1.2.2.2.2 gL_ends_L_grows rfl rfl rfl (by decide +kernel) ⟨Nat.le_of_ble_eq_true rfl, Nat.le_of_ble_eq_true rfl⟩) rfl dL_ends_189 (rest := []) (Nat.le_of_ble_eq_true rfl) rfl ⟨(by first | exact Nat.le_of_ble_eq_true rfl | (dsimp only; omega)), (by first | exact Nat.le_of_ble_eq_true rfl | (dsimp only; omega))⟩) (fun x' hx' => ?_)
                      obtain ⟨X9, Y9, rfl, s1, s2, s3, s4, s5⟩ := hx'
                      refine v_goto C 226 dL_ends_192 (by decide) ?_
                      refine v_sub [3, 4, 5, 6, 7, 8, 9, 10, 11, 12, 13, 14, 15, 16] rfl ?_
                      exact K (X9, Y9) ⟨hc4, nE.ch ⟨f0, f1, f3, fR⟩ (s3 0 (by decide) (by decide)) (s3 1 (by decide) (by decide)) (s3 3 (by decide) (by decide)) (s4 3 (by decide)) (s4 4 (by decide)) (s5 0 (by decide) (by decide)), by
                        unfold actS
                        rw [if_neg hc3, if_neg hc0, if_pos hc1, hff]
                        exact ⟨hW8.1.ch s4 (by decide), s1, hW8.2.2.1.ch (s3 5 (by decide) (by decide)) (s5 3 (by decide) (by decide)), s2.trans (congrArg (· + _) hW8.2.2.2)⟩⟩
                    · skip
                      have hc1 : c.1 ≠ 1 := fun q => h1 (by rw [pk] at q; have := congrArg Int32.toNatClampNeg q; rw [nI_clamp (by omega)] at this; exact this)
                      refine v_icmp_ne C 195 dL_ends_173 (by decide) (fun b4 => ?_) (fun b4 => absurd b4 (fun q => h1 (by have := congrArg Int32.toNatClampNeg q; rw [nI_clamp (by omega)] at this; exact this)))
                      refine v_iload C dL_ends_195 (j := 2) rfl ?_
                      refine v_iconst C dL_ends_197 (v := 2) (by decide) ?_
                      refine v_icmp_ne C 212 dL_ends_198 (by decide) (fun b5 => absurd b5 (fun q => q (by rw [show kd = 2 by omega]; rfl))) (fun b5 => ?_)
                      refine v_aload_n C dL_ends_201 (j := 7) rfl rfl ?_
                      refine v_aload C dL_ends_202 (j := 12) rfl ?_
                      refine v_aload C dL_ends_204 (j := 16) rfl ?_
                      refine v_cv (v_runS C (n_prints ht1 ht6 u1 hW8.2.2.1) (va_cwS 3 C.1.2.2.2.2 gL_ends_L_prints rfl rfl rfl (by decide +kernel) ⟨Nat.le_of_ble_eq_true rfl, Nat.le_of_ble_eq_true rfl⟩) rfl dL_ends_206 (rest := []) (Nat.le_of_ble_eq_true rfl) rfl ⟨(by first | exact Nat.le_of_ble_eq_true rfl | (dsimp only; omega)), (by first | exact Nat.le_of_ble_eq_true rfl | (dsimp only; omega))⟩) (fun x' hx' => ?_)
                      obtain ⟨X9, Y9, rfl, s1, s2, s3, s4⟩ := hx'
                      refine v_goto C 226 dL_ends_209 (by decide) ?_
                      refine v_sub [3, 4, 5, 6, 7, 8, 9, 10, 11, 12, 13, 14, 15, 16] rfl ?_
                      exact K (X9, Y9) ⟨hc4, nE.ch ⟨f0, f1, f3, fR⟩ (s2 0 (by decide)) (s2 1 (by decide)) (s2 3 (by decide)) (s3 3 (by decide)) (s3 4 (by decide)) (s4 0 (by decide)), by
                        unfold actS
                        rw [if_neg hc3, if_neg hc0, if_neg hc1]
                        exact ⟨hW8.1.ch s3 (by decide), hW8.2.1.ch (s2 4 (by decide)) (s3 6 (by decide)) (s4 1 (by decide)) (s4 2 (by decide)), s1, (s2 2 (by decide)).trans hW8.2.2.2⟩⟩
end NZ
