/-! ===== the law: the value of an action ===== -/
theorem wwL_finds_k97 : Cond.constantLong RL 97 (65) ∈ wsL_finds := by decide +kernel
theorem wwL_finds_k99 : Cond.constantLong RL 99 (5) ∈ wsL_finds := by decide +kernel
section NF2
variable {l : Launch} {D : va_G} {tys : List (ClassId × FieldType)} {z0 : Nat} {A : Nat → Prop} {σ0 : Type} {pic0 : σ0 → Heap → Prop} {cI cJ : ClassId} {ad al : Nat → Nat} {y0 : σ0} {X : Nat → Nat → Int32} {Y : Nat → Nat → Int64} {sep rnum : Int32} {r u v : List Int32}
set_option maxRecDepth 100000 in
set_option maxHeartbeats 8000000 in
theorem n_finds (ht1 : tys[1]? = some (cI, .int)) (ht6 : tys[6]? = some (cJ, .long)) (hR : nT 0 X r) (hg : X 5 0 = sep) (hg1 : X 5 1 = rnum) (hn : ∃ N, N < 1000000000 ∧ rnum = nI N) {i : Nat} (hi : i < 48) {c9 : Ac} (hc : okA c9) (hY : Y 0 i = lN (pkA c9)) : ct D tys z0 A (picN pic0 cI cJ ad al A) l yL_finds wsL_finds (rmL 4 94) [.ref (ad 0), .ref (ad 1), .ref (ad 5), .ref (al 0), .int (nI i)] (y0, X, Y) (qI (picN pic0 cI cJ ad al A) A (fun q x => ∃ X', x = (y0, X', Y) ∧ nT 1 X' (exV sep r rnum c9.2.2.1 c9.2.2.2.1 c9.2.2.2.2) ∧ q = num (exV sep r rnum c9.2.2.1 c9.2.2.2.1 c9.2.2.2.2) ∧ X' 5 2 = X 5 2 + exG sep r rnum c9.2.2.1 c9.2.2.2.1 c9.2.2.2.2 ∧ (∀ j, j ≠ 2 → X' 5 j = X 5 j) ∧ ich [1, 5] X X')) := by
  obtain ⟨p1, -, -, -, po, px, py⟩ := pkA_of hc
  have hx0 := hc.2.2.2.1
  have hy0 := hc.2.2.2.2
  obtain ⟨P, hP⟩ : ∃ P, pkA c9 = P := ⟨_, rfl⟩
  rw [hP] at p1 po px py hY
  clear hP
  obtain ⟨kd, fd, op, x1, y1⟩ := c9
  dsimp only at po px py hx0 hy0 ⊢
  have ha60 := opT_len (sep := sep) (rnum := rnum) hR.2.1 hn hx0
  have hb60 := opT_len (sep := sep) (rnum := rnum) hR.2.1 hn hy0
  refine ct_of RL (by decide +kernel) rfl rfl (Nat.le_of_ble_eq_true rfl) ?_
  intro p e s m below meth c C hr hm
  refine v_lv (lv' := [(0, _), (1, _), (2, _), (3, _), (4, _)]) rfl ?_
  refine v_aload_n C dL_finds_0 (j := 3) rfl rfl ?_
  refine v_iload C dL_finds_1 (j := 4) rfl ?_
  refine v_lald C dL_finds_3 6 ht6 N_a (vp_in_nI (by show i < 48; omega) (by decide)) ?_
  refine v_long (b := lN P) (by rw [nI_clamp (by omega)]; exact hY) ?_
  refine v_ldc2 C dL_finds_4 (v := (65)) wwL_finds_k97 ?_
  refine v_ldiv C dL_finds_7 (by decide) ?_
  refine v_ldc2 C dL_finds_8 (v := (5)) wwL_finds_k99 ?_
  refine v_lrem C dL_finds_11 (by decide) ?_
  refine v_long (b := lN (P / 65 % 5)) (by rw [show (65 : Int64) = lN 65 from rfl, show (5 : Int64) = lN 5 from rfl, pk_lDiv (by omega) (by decide) (by decide), pk_lRem (Nat.lt_of_le_of_lt (Nat.div_le_self _ _) (by omega)) (by decide) (by decide)]) ?_
  refine v_l2i C dL_finds_12 ?_
  rw [lN_i, ← po]
  refine v_istore C dL_finds_13 (by decide) (lv' := [(5, _), (0, _), (1, _), (2, _), (3, _), (4, _)]) rfl ?_
  refine v_aload_n C dL_finds_15 (j := 4) rfl rfl ?_
  refine v_iload C dL_finds_16 (j := 5) rfl ?_
  refine v_iconst C dL_finds_18 (v := 0) (by decide) ?_
  refine v_ci (v_runS C (n_operand ht6 hi hY p1 false) (va_cwS 3 C.1.2.2.2.2 gL_finds_L_operand rfl rfl rfl (by decide +kernel) ⟨Nat.le_of_ble_eq_true rfl, Nat.le_of_ble_eq_true rfl⟩) rfl dL_finds_19 (rest := []) (Nat.le_of_ble_eq_true rfl) rfl ⟨(by first | exact Nat.le_of_ble_eq_true rfl | (dsimp only; omega)), (by first | exact Nat.le_of_ble_eq_true rfl | (dsimp only; omega))⟩) (fun q x' hx' => ?_)
  obtain ⟨rfl, rfl⟩ := hx'
  rw [show nI (if false = true then P / 325 / 10100 else P / 325 % 10100) - 30 = x1 from px.symm]
  refine v_istore C dL_finds_22 (by decide) (lv' := [(6, _), (5, _), (0, _), (1, _), (2, _), (3, _), (4, _)]) rfl ?_
  refine v_aload_n C dL_finds_24 (j := 5) rfl rfl ?_
  refine v_iload C dL_finds_25 (j := 6) rfl ?_
  refine v_iconst C dL_finds_27 (v := 1) (by decide) ?_
  refine v_ci (v_runS C (n_operand ht6 hi hY p1 true) (va_cwS 3 C.1.2.2.2.2 gL_finds_L_operand rfl rfl rfl (by decide +kernel) ⟨Nat.le_of_ble_eq_true rfl, Nat.le_of_ble_eq_true rfl⟩) rfl dL_finds_28 (rest := []) (Nat.le_of_ble_eq_true rfl) rfl ⟨(by first | exact Nat.le_of_ble_eq_true rfl | (dsimp only; omega)), (by first | exact Nat.le_of_ble_eq_true rfl | (dsimp only; omega))⟩) (fun q x' hx' => ?_)
  obtain ⟨rfl, rfl⟩ := hx'
  rw [show nI (if true = true then P / 325 / 10100 else P / 325 % 10100) - 30 = y1 from py.symm]
  refine v_istore C dL_finds_31 (by decide) (lv' := [(7, _), (6, _), (5, _), (0, _), (1, _), (2, _), (3, _), (4, _)]) rfl ?_
  refine v_aload_n C dL_finds_33 (j := 4) rfl rfl ?_
  refine v_bipush C dL_finds_34 (v := 60) (by decide) ?_
  refine v_iconst C dL_finds_36 (v := 0) (by decide) ?_
  refine v_iast C dL_finds_37 1 ht1 (by unfold vp_in; decide) (N_st (j := 1) (by decide) _) ?_
  obtain ⟨X1, hX1, c0, m0⟩ : ∃ X1, X1 = va_up X 1 (upd (X 1) (60 : Int32).toNatClampNeg 0) ∧ ich [1] X X1 ∧ nT 1 X1 [] := ⟨_, rfl, ich_u (by decide) _, nT_0⟩
  rw [← hX1]
  clear hX1
  have hR1 := hR.ch c0 (by decide)
  have hg9 : X1 5 = X 5 := c0 5 (by decide)
  have hga : X1 5 0 = sep := by rw [hg9]; exact hg
  have hgb : X1 5 1 = rnum := by rw [hg9]; exact hg1
  refine v_cut0 (pcj := 81) (lvj := [(7, .int y1), (6, .int x1), (5, .int op), (0, .ref (ad 0)), (1, .ref (ad 1)), (2, .ref (ad 5))]) (stj := []) (op ≠ 0 ∧ op ≠ 4) (fun hw => ?_) (fun K => ?_)
  · skip
    have eV : exV sep r rnum op x1 y1 = dec (fitI (calO op (num (opT sep r rnum x1)).toInt64 (num (opT sep r rnum y1)).toInt64)) := by unfold exV exT; rw [if_neg hw.1, if_neg hw.2]
    have eG : exG sep r rnum op x1 y1 = fltI (calO op (num (opT sep r rnum x1)).toInt64 (num (opT sep r rnum y1)).toInt64) := by unfold exG exF; rw [if_neg hw.1, if_neg hw.2]
    rw [eV, eG]
    clear eV eG
    refine v_aload_n C dL_finds_81 (j := 3) rfl rfl ?_
    refine v_aload_n C dL_finds_82 (j := 5) rfl rfl ?_
    refine v_iload C dL_finds_83 (j := 1) rfl ?_
    refine v_ci (v_runS C (n_numberOf ht1 hR1 hga hgb hn hx0) (va_cwS 3 C.1.2.2.2.2 gL_finds_L_numberOf rfl rfl rfl (by decide +kernel) ⟨Nat.le_of_ble_eq_true rfl, Nat.le_of_ble_eq_true rfl⟩) rfl dL_finds_85 (rest := []) (Nat.le_of_ble_eq_true rfl) rfl ⟨(by first | exact Nat.le_of_ble_eq_true rfl | (dsimp only; omega)), (by first | exact Nat.le_of_ble_eq_true rfl | (dsimp only; omega))⟩) (fun q x' hx' => ?_)
    obtain ⟨rfl, rfl, -⟩ := hx'
    refine v_i2l C dL_finds_88 ?_
    refine v_lstore C dL_finds_89 (by decide) (lv' := [(8, _), (7, _), (6, _), (5, _), (0, _), (1, _), (2, _)]) rfl ?_
    refine v_aload_n C dL_finds_91 (j := 4) rfl rfl ?_
    refine v_aload_n C dL_finds_92 (j := 6) rfl rfl ?_
    refine v_iload C dL_finds_93 (j := 1) rfl ?_
    refine v_ci (v_runS C (n_numberOf ht1 hR1 hga hgb hn hy0) (va_cwS 3 C.1.2.2.2.2 gL_finds_L_numberOf rfl rfl rfl (by decide +kernel) ⟨Nat.le_of_ble_eq_true rfl, Nat.le_of_ble_eq_true rfl⟩) rfl dL_finds_95 (rest := []) (Nat.le_of_ble_eq_true rfl) rfl ⟨(by first | exact Nat.le_of_ble_eq_true rfl | (dsimp only; omega)), (by first | exact Nat.le_of_ble_eq_true rfl | (dsimp only; omega))⟩) (fun q x' hx' => ?_)
    obtain ⟨rfl, rfl, -⟩ := hx'
    refine v_i2l C dL_finds_98 ?_
    refine v_lstore C dL_finds_99 (by decide) (lv' := [(10, _), (8, _), (7, _), (6, _), (5, _), (0, _), (1, _), (2, _)]) rfl ?_
    refine v_aload_n C dL_finds_101 (j := 7) rfl rfl ?_
    refine v_cut0 (pcj := 135) (lvj := [(0, .ref (ad 0)), (1, .ref (ad 1)), (2, .ref (ad 5))]) (stj := [.long (calO op (num (opT sep r rnum x1)).toInt64 (num (opT sep r rnum y1)).toInt64), .ref (ad 5)]) True (fun _ => ?_) (fun K2 => ?_)
    · skip
      obtain ⟨z, hz⟩ : ∃ z, calO op (num (opT sep r rnum x1)).toInt64 (num (opT sep r rnum y1)).toInt64 = z := ⟨_, rfl⟩
      rw [hz]
      refine v_ci (v_runS C (n_fits ht1 z) (va_cwS 2 C.1.2.2.2.2 gL_finds_L_fits rfl rfl rfl (by decide +kernel) ⟨Nat.le_of_ble_eq_true rfl, Nat.le_of_ble_eq_true rfl⟩) rfl dL_finds_135 (rest := []) (Nat.le_of_ble_eq_true rfl) rfl ⟨(by first | exact Nat.le_of_ble_eq_true rfl | (dsimp only; omega)), (by first | exact Nat.le_of_ble_eq_true rfl | (dsimp only; omega))⟩) (fun q x' hx' => ?_)
      obtain ⟨rfl, rfl⟩ := hx'
      obtain ⟨X2, hX2, e2, e3, c2⟩ : ∃ X2, X2 = va_up X1 5 (upd (X1 5) 2 (X1 5 2 + fltI z)) ∧ X2 5 2 = X 5 2 + fltI z ∧ (∀ j, j ≠ 2 → X2 5 j = X 5 j) ∧ ich [5] X1 X2 := ⟨_, rfl, by rw [va_up_same, hg9]; unfold upd; rw [if_pos rfl], fun j hj => by rw [va_up_same, hg9]; unfold upd; rw [if_neg hj], ich_u (by decide) _⟩
      rw [← hX2]
      clear hX2
      refine v_istore C dL_finds_138 (by decide) (lv' := [(12, _), (0, _), (1, _), (2, _)]) rfl ?_
      refine v_aload_n C dL_finds_140 (j := 2) rfl rfl ?_
      refine v_iload C dL_finds_141 (j := 0) rfl ?_
      refine v_cv (v_runS C (n_writes ht1 (m0.ch c2 (by decide)) (fitI z)) (va_cwS 2 C.1.2.2.2.2 gL_finds_L_writes rfl rfl rfl (by decide +kernel) ⟨Nat.le_of_ble_eq_true rfl, Nat.le_of_ble_eq_true rfl⟩) rfl dL_finds_143 (rest := []) (Nat.le_of_ble_eq_true rfl) rfl ⟨(by first | exact Nat.le_of_ble_eq_true rfl | (dsimp only; omega)), (by first | exact Nat.le_of_ble_eq_true rfl | (dsimp only; omega))⟩) (fun x' hx' => ?_)
      obtain ⟨X3, rfl, g1, g2⟩ := hx'
      rw [app60_0 (by have := dec_len (fitI z); omega)] at g1
      refine v_aload_n C dL_finds_146 (j := 2) rfl rfl ?_
      refine v_iconst C dL_finds_147 (v := 0) (by decide) ?_
      refine v_aload_n C dL_finds_148 (j := 2) rfl rfl ?_
      refine v_bipush C dL_finds_149 (v := 60) (by decide) ?_
      refine v_iald C dL_finds_151 1 ht1 (N_t (j := 1) (by decide)) (by unfold vp_in; decide) ?_
      refine v_int (b := nI (dec (fitI z)).length) g1.1 ?_
      refine v_ci (v_runS C (n_number (j := 1) ht1 (by decide) g1 (str_all _)) (va_cwS 3 C.1.2.2.2.2 gL_finds_L_number rfl rfl rfl (by decide +kernel) ⟨Nat.le_of_ble_eq_true rfl, Nat.le_of_ble_eq_true rfl⟩) rfl dL_finds_152 (rest := []) (Nat.le_of_ble_eq_true rfl) rfl ⟨(by first | exact Nat.le_of_ble_eq_true rfl | (dsimp only; omega)), (by first | exact Nat.le_of_ble_eq_true rfl | (dsimp only; omega))⟩) (fun q x' hx' => ?_)
      obtain ⟨rfl, rfl⟩ := hx'
      exact v_ireturn C dL_finds_155 hr (rfl) (Nat.le_of_ble_eq_true rfl) (Nat.le_of_ble_eq_true rfl) (⟨X3, rfl, g1, rfl, by rw [g2 5 (by decide)]; exact e2, fun j hj => by rw [g2 5 (by decide)]; exact e3 j hj, (c0.mo (by decide)).tr ((c2.mo (by decide)).tr (g2.mo (by decide)))⟩)
    · skip
      refine v_iload C dL_finds_102 (j := 4) rfl ?_
      refine v_iconst C dL_finds_104 (v := 1) (by decide) ?_
      refine v_icmp_ne C 116 dL_finds_105 (by decide) (fun c1 => ?_) (fun c1 => ?_)
      · skip
        refine v_iload C dL_finds_116 (j := 4) rfl ?_
        refine v_iconst C dL_finds_118 (v := 2) (by decide) ?_
        refine v_icmp_ne C 130 dL_finds_119 (by decide) (fun c3 => ?_) (fun c3 => ?_)
        · skip
          refine v_lload C dL_finds_130 (j := 1) rfl ?_
          refine v_lload C dL_finds_132 (j := 0) rfl ?_
          refine v_lmul C dL_finds_134 ?_
          refine v_long (b := calO op (num (opT sep r rnum x1)).toInt64 (num (opT sep r rnum y1)).toInt64) (by unfold calO; rw [if_neg c1, if_neg c3, if_pos (by obtain ⟨⟨_, _, _⟩, ⟨_, _, _⟩, ⟨k9, hk9, hk8⟩, _⟩ := hc; dsimp only at hk8; rw [hk8] at hw c1 c3 ⊢; rcases (show k9 = 0 ∨ k9 = 1 ∨ k9 = 2 ∨ k9 = 3 ∨ k9 = 4 by omega) with rfl | rfl | rfl | rfl | rfl; exact absurd rfl hw.1; exact absurd rfl c1; exact absurd rfl c3; rfl; exact absurd rfl hw.2)]) ?_
          exact v_sub [5, 6, 7] rfl (K2 trivial)
        · skip
          refine v_lload C dL_finds_122 (j := 1) rfl ?_
          refine v_lload C dL_finds_124 (j := 0) rfl ?_
          refine v_lsub C dL_finds_126 ?_
          refine v_goto C 135 dL_finds_127 (by decide) ?_
          refine v_long (b := calO op (num (opT sep r rnum x1)).toInt64 (num (opT sep r rnum y1)).toInt64) (by unfold calO; rw [if_neg c1, if_pos c3]) ?_
          exact v_sub [5, 6, 7] rfl (K2 trivial)
      · skip
        refine v_lload C dL_finds_108 (j := 1) rfl ?_
        refine v_lload C dL_finds_110 (j := 0) rfl ?_
        refine v_ladd C dL_finds_112 ?_
        refine v_goto C 135 dL_finds_113 (by decide) ?_
        refine v_long (b := calO op (num (opT sep r rnum x1)).toInt64 (num (opT sep r rnum y1)).toInt64) (by unfold calO; rw [if_pos c1]) ?_
        exact v_sub [5, 6, 7] rfl (K2 trivial)
  · skip
    refine v_cut0 (pcj := 49) (lvj := [(7, .int y1), (6, .int x1), (5, .int op), (0, .ref (ad 0)), (1, .ref (ad 1)), (2, .ref (ad 5))]) (stj := []) (op = 0 ∨ op = 4) (fun hw => ?_) (fun K2 => ?_)
    · skip
      have eG : exG sep r rnum op x1 y1 = 0 := by
          unfold exG exF
          by_cases z : op = 0
          · rw [if_pos z]
          · rw [if_neg z, if_pos (by rcases hw with q | q; exact absurd q z; exact q)]
      rw [eG]
      refine v_aload_n C dL_finds_49 (j := 3) rfl rfl ?_
      refine v_aload_n C dL_finds_50 (j := 5) rfl rfl ?_
      refine v_iload C dL_finds_51 (j := 1) rfl ?_
      refine v_aload_n C dL_finds_53 (j := 4) rfl rfl ?_
      refine v_cv (v_runS C (n_texts ht1 hR1 hga hgb hn hx0 m0) (va_cwS 4 C.1.2.2.2.2 gL_finds_L_texts rfl rfl rfl (by decide +kernel) ⟨Nat.le_of_ble_eq_true rfl, Nat.le_of_ble_eq_true rfl⟩) rfl dL_finds_54 (rest := []) (Nat.le_of_ble_eq_true rfl) rfl ⟨(by first | exact Nat.le_of_ble_eq_true rfl | (dsimp only; omega)), (by first | exact Nat.le_of_ble_eq_true rfl | (dsimp only; omega))⟩) (fun x' hx' => ?_)
      obtain ⟨X2, rfl, g1, g2⟩ := hx'
      rw [app60_0 ha60] at g1
      refine v_cutX (pcj := 71) (fun w : (Nat → Nat → Int32) => (y0, w, Y)) (fun _ => [(1, .ref (ad 1))]) (fun _ => []) (fun w => ich [1] X w ∧ nT 1 w (exV sep r rnum op x1 y1)) (fun w hw => ?_) (fun K3 => ?_)
      · skip
        obtain ⟨w1, w2⟩ := hw
        refine v_aload_n C dL_finds_71 (j := 0) rfl rfl ?_
        refine v_iconst C dL_finds_72 (v := 0) (by decide) ?_
        refine v_aload_n C dL_finds_73 (j := 0) rfl rfl ?_
        refine v_bipush C dL_finds_74 (v := 60) (by decide) ?_
        refine v_iald C dL_finds_76 1 ht1 (N_t (j := 1) (by decide)) (by unfold vp_in; decide) ?_
        refine v_int (b := nI (exV sep r rnum op x1 y1).length) w2.1 ?_
        refine v_ci (v_runS C (n_number (j := 1) ht1 (by decide) w2 (str_all _)) (va_cwS 3 C.1.2.2.2.2 gL_finds_L_number rfl rfl rfl (by decide +kernel) ⟨Nat.le_of_ble_eq_true rfl, Nat.le_of_ble_eq_true rfl⟩) rfl dL_finds_77 (rest := []) (Nat.le_of_ble_eq_true rfl) rfl ⟨(by first | exact Nat.le_of_ble_eq_true rfl | (dsimp only; omega)), (by first | exact Nat.le_of_ble_eq_true rfl | (dsimp only; omega))⟩) (fun q x' hx' => ?_)
        obtain ⟨rfl, rfl⟩ := hx'
        exact v_ireturn C dL_finds_80 hr (rfl) (Nat.le_of_ble_eq_true rfl) (Nat.le_of_ble_eq_true rfl) (⟨w, rfl, w2, rfl, by rw [w1 5 (by decide), Int32.add_zero], fun j _ => by rw [w1 5 (by decide)], w1.mo (by decide)⟩)
      · skip
        refine v_iload C dL_finds_57 (j := 2) rfl ?_
        refine v_iconst C dL_finds_59 (v := 4) (by decide) ?_
        refine v_icmp_ne C 71 dL_finds_60 (by decide) (fun c1 => ?_) (fun c1 => ?_)
        · skip
          have z : op = 0 := by rcases hw with q | q; exact q; exact absurd q c1
          exact v_sub [4] rfl (K3 X2 ⟨c0.tr g2, by unfold exV; rw [if_pos z]; exact g1⟩)
        · skip
          have z : op ≠ 0 := fun q => by rw [c1] at q; exact absurd q (by decide)
          refine v_aload_n C dL_finds_63 (j := 3) rfl rfl ?_
          refine v_aload_n C dL_finds_64 (j := 5) rfl rfl ?_
          refine v_iload C dL_finds_65 (j := 0) rfl ?_
          refine v_aload_n C dL_finds_67 (j := 4) rfl rfl ?_
          refine v_cv (v_runS C (n_texts ht1 (hR1.ch g2 (by decide)) ((congrFun (g2 5 (by decide)) 0).trans hga) ((congrFun (g2 5 (by decide)) 1).trans hgb) hn hy0 g1) (va_cwS 4 C.1.2.2.2.2 gL_finds_L_texts rfl rfl rfl (by decide +kernel) ⟨Nat.le_of_ble_eq_true rfl, Nat.le_of_ble_eq_true rfl⟩) rfl dL_finds_68 (rest := []) (Nat.le_of_ble_eq_true rfl) rfl ⟨(by first | exact Nat.le_of_ble_eq_true rfl | (dsimp only; omega)), (by first | exact Nat.le_of_ble_eq_true rfl | (dsimp only; omega))⟩) (fun x' hx' => ?_)
          obtain ⟨X3, rfl, g3, g4⟩ := hx'
          exact v_sub [4] rfl (K3 X3 ⟨c0.tr (g2.tr g4), by unfold exV exT; rw [if_neg z, if_pos c1]; exact g3⟩)
    · skip
      refine v_iload C dL_finds_38 (j := 2) rfl ?_
      refine v_if_eq C 49 dL_finds_40 (by decide) (fun c1 => ?_) (fun c1 => ?_)
      · skip
        exact v_sub [0, 1, 2, 3, 4, 5] rfl (K2 (Or.inl c1))
      · skip
        refine v_iload C dL_finds_43 (j := 2) rfl ?_
        refine v_iconst C dL_finds_45 (v := 4) (by decide) ?_
        refine v_icmp_ne C 81 dL_finds_46 (by decide) (fun c2 => ?_) (fun c2 => ?_)
        · skip
          exact v_sub [0, 1, 2, 3, 4, 5] rfl (K ⟨c1, c2⟩)
        · skip
          exact v_sub [0, 1, 2, 3, 4, 5] rfl (K2 (Or.inr c2))
end NF2
