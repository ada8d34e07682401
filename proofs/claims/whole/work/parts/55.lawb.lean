/-! ===== the law's calls, further ones ===== -/

section LW
variable {p : Program} {l : Launch} {e : Env} {s : State} {m : MethodId} {args : Array Value} {below : List Frame} {meth : Method} {c : Code} {Q : State → Prop}
variable {D : va_G} {tys : List (ClassId × FieldType)} {z0 : Nat} {A : Nat → Prop} {cC cI cZ cJ cO cT cR : ClassId} {md oa b L i N k n : Nat} {ad a na : Nat → Nat} {xs : Nat → Int32}

set_option maxRecDepth 100000 in
set_option maxHeartbeats 4000000 in
theorem law_number (hT : lwT l tys cC cI cZ cR cT cO cJ) (C : cx p s m args meth c code 7 wsL_law RL D tys z0 A) (hX : va_X b L xs s s.heap ∧ b < s.heap.size ∧ ¬ A b ∧ L ≤ 3584) (hi : i + 7 ≤ L) (hN : N < 512) (hk : k + 8 ≤ room_1.cells ∧ n + 88 ≤ room_1.slots) {x : lS} (hI : lI z0 cI cO cT cR a na N x) (K : ∀ x', lI z0 cI cO cT cR a na (N + 1) x' → vv (picL D cC cI cZ cJ md oa ad A) A 7 p l e room_1 s m args below meth c Q x' (k + 8) (n + 88) 918 (lvL i b (a 0) md oa) []) : vv (picL D cC cI cZ cJ md oa ad A) A 7 p l e room_1 s m args below meth c Q x k n 563 (lvL i b (a 0) md oa) [] := by
  obtain ⟨xf, ⟨I, M⟩, g⟩ := x
  obtain ⟨S, hS1, ⟨N9, hS2, hS3⟩, hF, hG⟩ := hI
  dsimp only at hF hG
  obtain ⟨hl, ht, ht1, ht2, ht3, ht4, ht5, ht6⟩ := hT
  refine v_lv (lv' := [(4, _), (0, _), (1, _), (2, _), (3, _)]) rfl ?_
  refine v_aload_n C dL_law_563 (j := 2) rfl rfl ?_
  refine v_arg C hX (i := i) (j := 1) (j0 := 1) (j4 := 0) (by omega) dL_law_564 dL_law_565 dL_law_567 dL_law_568 dL_law_569 (by decide) rfl rfl ?_
  refine v_aload_n C dL_law_570 (j := 4) rfl rfl ?_
  refine l_cS C (W_number hl ht ht4 ht6 hF _) (vx_cwSW 3 C.1.2.2.2.2 gL_law_L_number rfl rfl rfl (by decide +kernel) ⟨Nat.le_of_ble_eq_true rfl, Nat.le_of_ble_eq_true rfl⟩) rfl dL_law_571 (rest := []) (Nat.le_of_ble_eq_true rfl) rfl ⟨Nat.le_trans (show k + 1 ≤ k + 8 by omega) hk.1, Nat.le_trans (show n + 6 ≤ n + 88 by omega) hk.2⟩ (fun q x1 hq => ?_)
  obtain ⟨x1f, y1, g1⟩ := x1
  obtain ⟨hq1, hy1, hq2, hF1⟩ := hq
  have hy2 : y1 = (I, M) := hy1
  subst hy2
  refine v_istore C dL_law_574 (by decide) (lv' := [(5, _), (4, _), (0, _), (1, _), (2, _), (3, _)]) rfl ?_
  refine v_aload_n C dL_law_576 (j := 4) rfl rfl ?_
  refine v_arg C hX (i := i) (j := 1) (j0 := 2) (j4 := 1) (by omega) dL_law_577 dL_law_578 dL_law_580 dL_law_581 dL_law_582 (by decide) rfl rfl ?_
  refine l_iM C (fun n9 => M_number ht1 hG _) (cwV 1 C.1.2.2.2.2 gL_law_X12_number rfl rfl rfl (by decide +kernel) ⟨Nat.le_of_ble_eq_true rfl, Nat.le_of_ble_eq_true rfl⟩) rfl dL_law_583 (rest := []) (Nat.le_of_ble_eq_true rfl) rfl ⟨Nat.le_trans (show k + 1 ≤ k + 8 by omega) hk.1, Nat.le_trans (show n + 6 ≤ n + 88 by omega) hk.2⟩ (fun r y2 hr => ?_)
  obtain ⟨I2, M2⟩ := y2
  refine v_istore C dL_law_586 (by decide) (lv' := [(6, _), (5, _), (4, _), (0, _), (1, _), (2, _), (3, _)]) rfl ?_
  refine v_aload_n C dL_law_588 (j := 5) rfl rfl ?_
  refine l_iM C (fun n9 => m_thrown) (cwV 0 C.1.2.2.2.2 gL_law_X12_thrown rfl rfl rfl (by decide +kernel) ⟨Nat.le_of_ble_eq_true rfl, Nat.le_of_ble_eq_true rfl⟩) rfl dL_law_589 (rest := []) (Nat.le_of_ble_eq_true rfl) rfl ⟨Nat.le_trans (show k + 1 ≤ k + 8 by omega) hk.1, Nat.le_trans (show n + 6 ≤ n + 88 by omega) hk.2⟩ (fun t y3 ht9 => ?_)
  obtain ⟨rfl, rfl⟩ := ht9
  obtain ⟨hr1, hr2, hG1⟩ := hr
  dsimp only at hr1 hq1
  refine v_iload C dL_law_592 (j := 1) rfl ?_
  refine v_icmp_eq C 599 dL_law_594 (by decide) (fun c1 => ?_) (fun c1 => ?_)
  · skip
    refine v_iload C dL_law_599 (j := 1) rfl ?_
    refine v_if_ne C 616 dL_law_601 (by decide) (fun c2 => ?_) (fun c2 => ?_)
    · skip
      refine v_goto C 918 dL_law_616 (by decide) ?_
      refine v_sub [2, 3, 4, 5, 6] rfl ?_
      exact v_kn (show k + 1 ≤ k + 8 by omega) (show n + 6 ≤ n + 88 by omega) (K _ (lI_of (okS_number hS1 ⟨N9, hS2, hS3⟩ _) hF1 hG1))
    · skip
      refine v_aload_n C dL_law_604 (j := 6) rfl rfl ?_
      refine v_iconst C dL_law_605 (v := 0) (by decide) ?_
      refine v_lald C dL_law_606 6 ht6 L_out in01 ?_
      refine v_iload C dL_law_607 (j := 0) rfl ?_
      refine v_i2l C dL_law_609 ?_
      refine v_lcmp C dL_law_610 ?_
      refine v_if_eq C 616 dL_law_611 (by decide) (fun c3 => ?_) (fun c3 => ?_)
      · skip
        refine v_goto C 918 dL_law_616 (by decide) ?_
        refine v_sub [2, 3, 4, 5, 6] rfl ?_
        exact v_kn (show k + 1 ≤ k + 8 by omega) (show n + 6 ≤ n + 88 by omega) (K _ (lI_of (okS_number hS1 ⟨N9, hS2, hS3⟩ _) hF1 hG1))
      · skip
        refine absurd ?_ c3
        rw [show (0 : Int32).toNatClampNeg = 0 from by decide, show g1 0 = _ from hq2 c2, hr2 (hq1.symm.trans c2)]
        exact cmp_self _
  · skip
    exact absurd (hr1.trans hq1.symm) c1
set_option maxRecDepth 100000 in
set_option maxHeartbeats 4000000 in
theorem law_character (hT : lwT l tys cC cI cZ cR cT cO cJ) (C : cx p s m args meth c code 7 wsL_law RL D tys z0 A) (hX : va_X b L xs s s.heap ∧ b < s.heap.size ∧ ¬ A b ∧ L ≤ 3584) (hi : i + 7 ≤ L) (hN : N < 512) (hk : k + 8 ≤ room_1.cells ∧ n + 88 ≤ room_1.slots) {x : lS} (hI : lI z0 cI cO cT cR a na N x) (K : ∀ x', lI z0 cI cO cT cR a na (N + 1) x' → vv (picL D cC cI cZ cJ md oa ad A) A 7 p l e room_1 s m args below meth c Q x' (k + 8) (n + 88) 918 (lvL i b (a 0) md oa) []) : vv (picL D cC cI cZ cJ md oa ad A) A 7 p l e room_1 s m args below meth c Q x k n 619 (lvL i b (a 0) md oa) [] := by
  obtain ⟨xf, ⟨I, M⟩, g⟩ := x
  obtain ⟨S, hS1, ⟨N9, hS2, hS3⟩, hF, hG⟩ := hI
  dsimp only at hF hG
  obtain ⟨hl, ht, ht1, ht2, ht3, ht4, ht5, ht6⟩ := hT
  refine v_lv (lv' := [(4, _), (0, _), (1, _), (2, _), (3, _)]) rfl ?_
  refine v_use (fun H hP => F_chs hF hP.1) (fun hch => ?_)
  refine v_aload_n C dL_law_619 (j := 2) rfl rfl ?_
  refine v_arg C hX (i := i) (j := 1) (j0 := 1) (j4 := 0) (by omega) dL_law_620 dL_law_621 dL_law_623 dL_law_624 dL_law_625 (by decide) rfl rfl ?_
  refine v_arg C hX (i := i) (j := 2) (j0 := 1) (j4 := 0) (by omega) dL_law_626 dL_law_627 dL_law_629 dL_law_630 dL_law_631 (by decide) rfl rfl ?_
  refine v_aload_n C dL_law_632 (j := 4) rfl rfl ?_
  refine l_cS C (W_character hl ht ht4 ht6 hF _ _) (vx_cwSW 4 C.1.2.2.2.2 gL_law_L_character rfl rfl rfl (by decide +kernel) ⟨Nat.le_of_ble_eq_true rfl, Nat.le_of_ble_eq_true rfl⟩) rfl dL_law_633 (rest := []) (Nat.le_of_ble_eq_true rfl) rfl ⟨Nat.le_trans (show k + 2 ≤ k + 8 by omega) hk.1, Nat.le_trans (show n + 12 ≤ n + 88 by omega) hk.2⟩ (fun q x1 hq => ?_)
  obtain ⟨x1f, y1, g1⟩ := x1
  obtain ⟨hq1, hy1, hq2, hF1⟩ := hq
  have hy2 : y1 = (I, M) := hy1
  subst hy2
  refine v_istore C dL_law_636 (by decide) (lv' := [(5, _), (4, _), (0, _), (1, _), (2, _), (3, _)]) rfl ?_
  refine v_aload_n C dL_law_638 (j := 4) rfl rfl ?_
  refine v_arg C hX (i := i) (j := 1) (j0 := 2) (j4 := 1) (by omega) dL_law_639 dL_law_640 dL_law_642 dL_law_643 dL_law_644 (by decide) rfl rfl ?_
  refine v_arg C hX (i := i) (j := 2) (j0 := 2) (j4 := 1) (by omega) dL_law_645 dL_law_646 dL_law_648 dL_law_649 dL_law_650 (by decide) rfl rfl ?_
  refine l_iM C (fun n9 => M_character ht1 hG hch.1 _ _) (cwV 2 C.1.2.2.2.2 gL_law_X12_character rfl rfl rfl (by decide +kernel) ⟨Nat.le_of_ble_eq_true rfl, Nat.le_of_ble_eq_true rfl⟩) rfl dL_law_651 (rest := []) (Nat.le_of_ble_eq_true rfl) rfl ⟨Nat.le_trans (show k + 2 ≤ k + 8 by omega) hk.1, Nat.le_trans (show n + 12 ≤ n + 88 by omega) hk.2⟩ (fun r y2 hr => ?_)
  obtain ⟨I2, M2⟩ := y2
  refine v_istore C dL_law_654 (by decide) (lv' := [(6, _), (5, _), (4, _), (0, _), (1, _), (2, _), (3, _)]) rfl ?_
  refine v_aload_n C dL_law_656 (j := 5) rfl rfl ?_
  refine l_iM C (fun n9 => m_thrown) (cwV 0 C.1.2.2.2.2 gL_law_X12_thrown rfl rfl rfl (by decide +kernel) ⟨Nat.le_of_ble_eq_true rfl, Nat.le_of_ble_eq_true rfl⟩) rfl dL_law_657 (rest := []) (Nat.le_of_ble_eq_true rfl) rfl ⟨Nat.le_trans (show k + 2 ≤ k + 8 by omega) hk.1, Nat.le_trans (show n + 12 ≤ n + 88 by omega) hk.2⟩ (fun t y3 ht9 => ?_)
  obtain ⟨rfl, rfl⟩ := ht9
  obtain ⟨hr1, hr2, hG1⟩ := hr
  dsimp only at hr1 hq1
  refine v_iload C dL_law_660 (j := 1) rfl ?_
  refine v_icmp_eq C 667 dL_law_662 (by decide) (fun c1 => ?_) (fun c1 => ?_)
  · skip
    refine v_iload C dL_law_667 (j := 1) rfl ?_
    refine v_if_ne C 684 dL_law_669 (by decide) (fun c2 => ?_) (fun c2 => ?_)
    · skip
      refine v_goto C 918 dL_law_684 (by decide) ?_
      refine v_sub [2, 3, 4, 5, 6] rfl ?_
      exact v_kn (show k + 2 ≤ k + 8 by omega) (show n + 12 ≤ n + 88 by omega) (K _ (lI_of (okS_character hS1 ⟨N9, hS2, hS3⟩ _ _) hF1 hG1))
    · skip
      refine v_aload_n C dL_law_672 (j := 6) rfl rfl ?_
      refine v_iconst C dL_law_673 (v := 0) (by decide) ?_
      refine v_lald C dL_law_674 6 ht6 L_out in01 ?_
      refine v_iload C dL_law_675 (j := 0) rfl ?_
      refine v_i2l C dL_law_677 ?_
      refine v_lcmp C dL_law_678 ?_
      refine v_if_eq C 684 dL_law_679 (by decide) (fun c3 => ?_) (fun c3 => ?_)
      · skip
        refine v_goto C 918 dL_law_684 (by decide) ?_
        refine v_sub [2, 3, 4, 5, 6] rfl ?_
        exact v_kn (show k + 2 ≤ k + 8 by omega) (show n + 12 ≤ n + 88 by omega) (K _ (lI_of (okS_character hS1 ⟨N9, hS2, hS3⟩ _ _) hF1 hG1))
      · skip
        refine absurd ?_ c3
        rw [show (0 : Int32).toNatClampNeg = 0 from by decide, show g1 0 = _ from hq2 c2, hr2 (hq1.symm.trans c2)]
        exact cmp_self _
  · skip
    exact absurd (hr1.trans hq1.symm) c1
set_option maxRecDepth 100000 in
set_option maxHeartbeats 4000000 in
theorem law_rows (hT : lwT l tys cC cI cZ cR cT cO cJ) (C : cx p s m args meth c code 7 wsL_law RL D tys z0 A) (hX : va_X b L xs s s.heap ∧ b < s.heap.size ∧ ¬ A b ∧ L ≤ 3584) (hi : i + 7 ≤ L) (hN : N < 512) (hk : k + 8 ≤ room_1.cells ∧ n + 88 ≤ room_1.slots) {x : lS} (hI : lI z0 cI cO cT cR a na N x) (K : ∀ x', lI z0 cI cO cT cR a na (N + 1) x' → vv (picL D cC cI cZ cJ md oa ad A) A 7 p l e room_1 s m args below meth c Q x' (k + 8) (n + 88) 918 (lvL i b (a 0) md oa) []) : vv (picL D cC cI cZ cJ md oa ad A) A 7 p l e room_1 s m args below meth c Q x k n 687 (lvL i b (a 0) md oa) [] := by
  obtain ⟨xf, ⟨I, M⟩, g⟩ := x
  obtain ⟨S, hS1, ⟨N9, hS2, hS3⟩, hF, hG⟩ := hI
  dsimp only at hF hG
  obtain ⟨hl, ht, ht1, ht2, ht3, ht4, ht5, ht6⟩ := hT
  refine v_lv (lv' := [(4, _), (0, _), (1, _), (2, _), (3, _)]) rfl ?_
  refine v_aload_n C dL_law_687 (j := 2) rfl rfl ?_
  refine l_iF C (ci := 11) (F_rows hF) (cwV 0 C.1.2.2.2.2 gL_law_X11_rows rfl rfl rfl (by decide +kernel) ⟨Nat.le_of_ble_eq_true rfl, Nat.le_of_ble_eq_true rfl⟩) rfl rfl hF.gC dL_law_688 (rest := []) (Nat.le_of_ble_eq_true rfl) rfl ⟨Nat.le_trans (show k + 0 ≤ k + 8 by omega) hk.1, Nat.le_trans (show n + 0 ≤ n + 88 by omega) hk.2⟩ (fun q x1f hq => ?_)
  refine v_aload_n C dL_law_691 (j := 3) rfl rfl ?_
  refine l_iM C (fun n9 => M_rows hG) (cwV 0 C.1.2.2.2.2 gL_law_X12_rows rfl rfl rfl (by decide +kernel) ⟨Nat.le_of_ble_eq_true rfl, Nat.le_of_ble_eq_true rfl⟩) rfl dL_law_692 (rest := [_]) (Nat.le_of_ble_eq_true rfl) rfl ⟨Nat.le_trans (show k + 0 ≤ k + 8 by omega) hk.1, Nat.le_trans (show n + 0 ≤ n + 88 by omega) hk.2⟩ (fun r y2 hr => ?_)
  obtain ⟨hr1, hr2, hG1⟩ := hr
  obtain ⟨hq1, hF1⟩ := hq
  refine v_icmp_eq C 918 dL_law_695 (by decide) (fun c1 => ?_) (fun c1 => ?_)
  · skip
    exact v_kn (show k + 0 ≤ k + 8 by omega) (show n + 0 ≤ n + 88 by omega) (K _ (lI_of (okS_same hS1 ⟨N9, hS2, hS3⟩) hF1 hG1))
  · skip
    exact absurd (hq1.trans (hr2 rfl).symm) c1
set_option maxRecDepth 100000 in
set_option maxHeartbeats 4000000 in
theorem law_row (hT : lwT l tys cC cI cZ cR cT cO cJ) (C : cx p s m args meth c code 7 wsL_law RL D tys z0 A) (hX : va_X b L xs s s.heap ∧ b < s.heap.size ∧ ¬ A b ∧ L ≤ 3584) (hi : i + 7 ≤ L) (hN : N < 512) (hk : k + 8 ≤ room_1.cells ∧ n + 88 ≤ room_1.slots) {x : lS} (hI : lI z0 cI cO cT cR a na N x) (K : ∀ x', lI z0 cI cO cT cR a na (N + 1) x' → vv (picL D cC cI cZ cJ md oa ad A) A 7 p l e room_1 s m args below meth c Q x' (k + 8) (n + 88) 918 (lvL i b (a 0) md oa) []) : vv (picL D cC cI cZ cJ md oa ad A) A 7 p l e room_1 s m args below meth c Q x k n 700 (lvL i b (a 0) md oa) [] := by
  obtain ⟨xf, ⟨I, M⟩, g⟩ := x
  obtain ⟨S, hS1, ⟨N9, hS2, hS3⟩, hF, hG⟩ := hI
  dsimp only at hF hG
  obtain ⟨hl, ht, ht1, ht2, ht3, ht4, ht5, ht6⟩ := hT
  refine v_lv (lv' := [(4, _), (0, _), (1, _), (2, _), (3, _)]) rfl ?_
  refine v_aload_n C dL_law_700 (j := 2) rfl rfl ?_
  refine v_arg C hX (i := i) (j := 1) (j0 := 1) (j4 := 0) (by omega) dL_law_701 dL_law_702 dL_law_704 dL_law_705 dL_law_706 (by decide) rfl rfl ?_
  refine v_aload_n C dL_law_707 (j := 4) rfl rfl ?_
  refine l_cS C (W_row hl ht3 ht6 hF _) (vx_cwSW 3 C.1.2.2.2.2 gL_law_L_row rfl rfl rfl (by decide +kernel) ⟨Nat.le_of_ble_eq_true rfl, Nat.le_of_ble_eq_true rfl⟩) rfl dL_law_708 (rest := []) (Nat.le_of_ble_eq_true rfl) rfl ⟨Nat.le_trans (show k + 1 ≤ k + 8 by omega) hk.1, Nat.le_trans (show n + 6 ≤ n + 88 by omega) hk.2⟩ (fun q x1 hq => ?_)
  obtain ⟨x1f, y1, g1⟩ := x1
  obtain ⟨hq1, hy1, hq2, hF1⟩ := hq
  have hy2 : y1 = (I, M) := hy1
  subst hy2
  refine v_istore C dL_law_711 (by decide) (lv' := [(5, _), (4, _), (0, _), (1, _), (2, _), (3, _)]) rfl ?_
  refine v_aload_n C dL_law_713 (j := 4) rfl rfl ?_
  refine v_arg C hX (i := i) (j := 1) (j0 := 2) (j4 := 1) (by omega) dL_law_714 dL_law_715 dL_law_717 dL_law_718 dL_law_719 (by decide) rfl rfl ?_
  refine l_iM C (fun n9 => M_row ht1 hG _) (cwV 1 C.1.2.2.2.2 gL_law_X12_row rfl rfl rfl (by decide +kernel) ⟨Nat.le_of_ble_eq_true rfl, Nat.le_of_ble_eq_true rfl⟩) rfl dL_law_720 (rest := []) (Nat.le_of_ble_eq_true rfl) rfl ⟨Nat.le_trans (show k + 1 ≤ k + 8 by omega) hk.1, Nat.le_trans (show n + 6 ≤ n + 88 by omega) hk.2⟩ (fun r y2 hr => ?_)
  obtain ⟨I2, M2⟩ := y2
  refine v_istore C dL_law_723 (by decide) (lv' := [(6, _), (5, _), (4, _), (0, _), (1, _), (2, _), (3, _)]) rfl ?_
  refine v_aload_n C dL_law_725 (j := 5) rfl rfl ?_
  refine l_iM C (fun n9 => m_thrown) (cwV 0 C.1.2.2.2.2 gL_law_X12_thrown rfl rfl rfl (by decide +kernel) ⟨Nat.le_of_ble_eq_true rfl, Nat.le_of_ble_eq_true rfl⟩) rfl dL_law_726 (rest := []) (Nat.le_of_ble_eq_true rfl) rfl ⟨Nat.le_trans (show k + 1 ≤ k + 8 by omega) hk.1, Nat.le_trans (show n + 6 ≤ n + 88 by omega) hk.2⟩ (fun t y3 ht9 => ?_)
  obtain ⟨rfl, rfl⟩ := ht9
  obtain ⟨hr1, hr2, hG1⟩ := hr
  dsimp only at hr1 hq1
  refine v_iload C dL_law_729 (j := 1) rfl ?_
  refine v_icmp_eq C 736 dL_law_731 (by decide) (fun c1 => ?_) (fun c1 => ?_)
  · skip
    refine v_iload C dL_law_736 (j := 1) rfl ?_
    refine v_if_ne C 753 dL_law_738 (by decide) (fun c2 => ?_) (fun c2 => ?_)
    · skip
      refine v_goto C 918 dL_law_753 (by decide) ?_
      refine v_sub [2, 3, 4, 5, 6] rfl ?_
      exact v_kn (show k + 1 ≤ k + 8 by omega) (show n + 6 ≤ n + 88 by omega) (K _ (lI_of (okS_row hS1 ⟨N9, hS2, hS3⟩ _) hF1 hG1))
    · skip
      refine v_aload_n C dL_law_741 (j := 6) rfl rfl ?_
      refine v_iconst C dL_law_742 (v := 0) (by decide) ?_
      refine v_lald C dL_law_743 6 ht6 L_out in01 ?_
      refine v_iload C dL_law_744 (j := 0) rfl ?_
      refine v_i2l C dL_law_746 ?_
      refine v_lcmp C dL_law_747 ?_
      refine v_if_eq C 753 dL_law_748 (by decide) (fun c3 => ?_) (fun c3 => ?_)
      · skip
        refine v_goto C 918 dL_law_753 (by decide) ?_
        refine v_sub [2, 3, 4, 5, 6] rfl ?_
        exact v_kn (show k + 1 ≤ k + 8 by omega) (show n + 6 ≤ n + 88 by omega) (K _ (lI_of (okS_row hS1 ⟨N9, hS2, hS3⟩ _) hF1 hG1))
      · skip
        refine absurd ?_ c3
        rw [show (0 : Int32).toNatClampNeg = 0 from by decide, show g1 0 = _ from hq2 c2, hr2 (hq1.symm.trans c2)]
        exact cmp_self _
  · skip
    exact absurd (hr1.trans hq1.symm) c1
set_option maxRecDepth 100000 in
set_option maxHeartbeats 4000000 in
theorem law_key (hT : lwT l tys cC cI cZ cR cT cO cJ) (C : cx p s m args meth c code 7 wsL_law RL D tys z0 A) (hX : va_X b L xs s s.heap ∧ b < s.heap.size ∧ ¬ A b ∧ L ≤ 3584) (hi : i + 7 ≤ L) (hN : N < 512) (hk : k + 8 ≤ room_1.cells ∧ n + 88 ≤ room_1.slots) {x : lS} (hI : lI z0 cI cO cT cR a na N x) (K : ∀ x', lI z0 cI cO cT cR a na (N + 1) x' → vv (picL D cC cI cZ cJ md oa ad A) A 7 p l e room_1 s m args below meth c Q x' (k + 8) (n + 88) 918 (lvL i b (a 0) md oa) []) : vv (picL D cC cI cZ cJ md oa ad A) A 7 p l e room_1 s m args below meth c Q x k n 756 (lvL i b (a 0) md oa) [] := by
  obtain ⟨xf, ⟨I, M⟩, g⟩ := x
  obtain ⟨S, hS1, ⟨N9, hS2, hS3⟩, hF, hG⟩ := hI
  dsimp only at hF hG
  obtain ⟨hl, ht, ht1, ht2, ht3, ht4, ht5, ht6⟩ := hT
  refine v_lv (lv' := [(4, _), (0, _), (1, _), (2, _), (3, _)]) rfl ?_
  refine v_use (fun H hP => F_chs hF hP.1) (fun hch => ?_)
  refine v_aload_n C dL_law_756 (j := 2) rfl rfl ?_
  refine v_arg C hX (i := i) (j := 1) (j0 := 1) (j4 := 0) (by omega) dL_law_757 dL_law_758 dL_law_760 dL_law_761 dL_law_762 (by decide) rfl rfl ?_
  refine v_arg C hX (i := i) (j := 2) (j0 := 1) (j4 := 0) (by omega) dL_law_763 dL_law_764 dL_law_766 dL_law_767 dL_law_768 (by decide) rfl rfl ?_
  refine v_aload_n C dL_law_769 (j := 4) rfl rfl ?_
  refine l_cS C (W_key hl ht ht3 ht6 hF _ _) (vx_cwSW 4 C.1.2.2.2.2 gL_law_L_key rfl rfl rfl (by decide +kernel) ⟨Nat.le_of_ble_eq_true rfl, Nat.le_of_ble_eq_true rfl⟩) rfl dL_law_770 (rest := []) (Nat.le_of_ble_eq_true rfl) rfl ⟨Nat.le_trans (show k + 2 ≤ k + 8 by omega) hk.1, Nat.le_trans (show n + 12 ≤ n + 88 by omega) hk.2⟩ (fun q x1 hq => ?_)
  obtain ⟨x1f, y1, g1⟩ := x1
  obtain ⟨hq1, hy1, hq2, hF1⟩ := hq
  have hy2 : y1 = (I, M) := hy1
  subst hy2
  refine v_istore C dL_law_773 (by decide) (lv' := [(5, _), (4, _), (0, _), (1, _), (2, _), (3, _)]) rfl ?_
  refine v_aload_n C dL_law_775 (j := 4) rfl rfl ?_
  refine v_arg C hX (i := i) (j := 1) (j0 := 2) (j4 := 1) (by omega) dL_law_776 dL_law_777 dL_law_779 dL_law_780 dL_law_781 (by decide) rfl rfl ?_
  refine v_arg C hX (i := i) (j := 2) (j0 := 2) (j4 := 1) (by omega) dL_law_782 dL_law_783 dL_law_785 dL_law_786 dL_law_787 (by decide) rfl rfl ?_
  refine l_iM C (fun n9 => M_key ht1 hG hch.2.1 _ _) (cwV 2 C.1.2.2.2.2 gL_law_X12_key rfl rfl rfl (by decide +kernel) ⟨Nat.le_of_ble_eq_true rfl, Nat.le_of_ble_eq_true rfl⟩) rfl dL_law_788 (rest := []) (Nat.le_of_ble_eq_true rfl) rfl ⟨Nat.le_trans (show k + 2 ≤ k + 8 by omega) hk.1, Nat.le_trans (show n + 12 ≤ n + 88 by omega) hk.2⟩ (fun r y2 hr => ?_)
  obtain ⟨I2, M2⟩ := y2
  refine v_istore C dL_law_791 (by decide) (lv' := [(6, _), (5, _), (4, _), (0, _), (1, _), (2, _), (3, _)]) rfl ?_
  refine v_aload_n C dL_law_793 (j := 5) rfl rfl ?_
  refine l_iM C (fun n9 => m_thrown) (cwV 0 C.1.2.2.2.2 gL_law_X12_thrown rfl rfl rfl (by decide +kernel) ⟨Nat.le_of_ble_eq_true rfl, Nat.le_of_ble_eq_true rfl⟩) rfl dL_law_794 (rest := []) (Nat.le_of_ble_eq_true rfl) rfl ⟨Nat.le_trans (show k + 2 ≤ k + 8 by omega) hk.1, Nat.le_trans (show n + 12 ≤ n + 88 by omega) hk.2⟩ (fun t y3 ht9 => ?_)
  obtain ⟨rfl, rfl⟩ := ht9
  obtain ⟨hr1, hr2, hG1⟩ := hr
  dsimp only at hr1 hq1
  refine v_iload C dL_law_797 (j := 1) rfl ?_
  refine v_icmp_eq C 804 dL_law_799 (by decide) (fun c1 => ?_) (fun c1 => ?_)
  · skip
    refine v_iload C dL_law_804 (j := 1) rfl ?_
    refine v_if_ne C 821 dL_law_806 (by decide) (fun c2 => ?_) (fun c2 => ?_)
    · skip
      refine v_goto C 918 dL_law_821 (by decide) ?_
      refine v_sub [2, 3, 4, 5, 6] rfl ?_
      exact v_kn (show k + 2 ≤ k + 8 by omega) (show n + 12 ≤ n + 88 by omega) (K _ (lI_of (okS_key hS1 ⟨N9, hS2, hS3⟩ _ _) hF1 hG1))
    · skip
      refine v_aload_n C dL_law_809 (j := 6) rfl rfl ?_
      refine v_iconst C dL_law_810 (v := 0) (by decide) ?_
      refine v_lald C dL_law_811 6 ht6 L_out in01 ?_
      refine v_iload C dL_law_812 (j := 0) rfl ?_
      refine v_i2l C dL_law_814 ?_
      refine v_lcmp C dL_law_815 ?_
      refine v_if_eq C 821 dL_law_816 (by decide) (fun c3 => ?_) (fun c3 => ?_)
      · skip
        refine v_goto C 918 dL_law_821 (by decide) ?_
        refine v_sub [2, 3, 4, 5, 6] rfl ?_
        exact v_kn (show k + 2 ≤ k + 8 by omega) (show n + 12 ≤ n + 88 by omega) (K _ (lI_of (okS_key hS1 ⟨N9, hS2, hS3⟩ _ _) hF1 hG1))
      · skip
        refine absurd ?_ c3
        rw [show (0 : Int32).toNatClampNeg = 0 from by decide, show g1 0 = _ from hq2 c2, hr2 (hq1.symm.trans c2)]
        exact cmp_self _
  · skip
    exact absurd (hr1.trans hq1.symm) c1
set_option maxRecDepth 100000 in
set_option maxHeartbeats 4000000 in
theorem law_lines (hT : lwT l tys cC cI cZ cR cT cO cJ) (C : cx p s m args meth c code 7 wsL_law RL D tys z0 A) (hX : va_X b L xs s s.heap ∧ b < s.heap.size ∧ ¬ A b ∧ L ≤ 3584) (hi : i + 7 ≤ L) (hN : N < 512) (hk : k + 8 ≤ room_1.cells ∧ n + 88 ≤ room_1.slots) {x : lS} (hI : lI z0 cI cO cT cR a na N x) (K : ∀ x', lI z0 cI cO cT cR a na (N + 1) x' → vv (picL D cC cI cZ cJ md oa ad A) A 7 p l e room_1 s m args below meth c Q x' (k + 8) (n + 88) 918 (lvL i b (a 0) md oa) []) : vv (picL D cC cI cZ cJ md oa ad A) A 7 p l e room_1 s m args below meth c Q x k n 824 (lvL i b (a 0) md oa) [] := by
  obtain ⟨xf, ⟨I, M⟩, g⟩ := x
  obtain ⟨S, hS1, ⟨N9, hS2, hS3⟩, hF, hG⟩ := hI
  dsimp only at hF hG
  obtain ⟨hl, ht, ht1, ht2, ht3, ht4, ht5, ht6⟩ := hT
  refine v_lv (lv' := [(4, _), (0, _), (1, _), (2, _), (3, _)]) rfl ?_
  refine v_aload_n C dL_law_824 (j := 2) rfl rfl ?_
  refine l_iF C (ci := 11) (F_lines hF) (cwV 0 C.1.2.2.2.2 gL_law_X11_lines rfl rfl rfl (by decide +kernel) ⟨Nat.le_of_ble_eq_true rfl, Nat.le_of_ble_eq_true rfl⟩) rfl rfl hF.gC dL_law_825 (rest := []) (Nat.le_of_ble_eq_true rfl) rfl ⟨Nat.le_trans (show k + 0 ≤ k + 8 by omega) hk.1, Nat.le_trans (show n + 0 ≤ n + 88 by omega) hk.2⟩ (fun q x1f hq => ?_)
  refine v_aload_n C dL_law_828 (j := 3) rfl rfl ?_
  refine l_iM C (fun n9 => M_lines hG) (cwV 0 C.1.2.2.2.2 gL_law_X12_lines rfl rfl rfl (by decide +kernel) ⟨Nat.le_of_ble_eq_true rfl, Nat.le_of_ble_eq_true rfl⟩) rfl dL_law_829 (rest := [_]) (Nat.le_of_ble_eq_true rfl) rfl ⟨Nat.le_trans (show k + 0 ≤ k + 8 by omega) hk.1, Nat.le_trans (show n + 0 ≤ n + 88 by omega) hk.2⟩ (fun r y2 hr => ?_)
  obtain ⟨hr1, hr2, hG1⟩ := hr
  obtain ⟨hq1, hF1⟩ := hq
  refine v_icmp_eq C 918 dL_law_832 (by decide) (fun c1 => ?_) (fun c1 => ?_)
  · skip
    exact v_kn (show k + 0 ≤ k + 8 by omega) (show n + 0 ≤ n + 88 by omega) (K _ (lI_of (okS_same hS1 ⟨N9, hS2, hS3⟩) hF1 hG1))
  · skip
    exact absurd (hq1.trans (hr2 rfl).symm) c1
set_option maxRecDepth 100000 in
set_option maxHeartbeats 4000000 in
theorem law_line (hT : lwT l tys cC cI cZ cR cT cO cJ) (C : cx p s m args meth c code 7 wsL_law RL D tys z0 A) (hX : va_X b L xs s s.heap ∧ b < s.heap.size ∧ ¬ A b ∧ L ≤ 3584) (hi : i + 7 ≤ L) (hN : N < 512) (hk : k + 8 ≤ room_1.cells ∧ n + 88 ≤ room_1.slots) {x : lS} (hI : lI z0 cI cO cT cR a na N x) (K : ∀ x', lI z0 cI cO cT cR a na (N + 1) x' → vv (picL D cC cI cZ cJ md oa ad A) A 7 p l e room_1 s m args below meth c Q x' (k + 8) (n + 88) 918 (lvL i b (a 0) md oa) []) : vv (picL D cC cI cZ cJ md oa ad A) A 7 p l e room_1 s m args below meth c Q x k n 837 (lvL i b (a 0) md oa) [] := by
  obtain ⟨xf, ⟨I, M⟩, g⟩ := x
  obtain ⟨S, hS1, ⟨N9, hS2, hS3⟩, hF, hG⟩ := hI
  dsimp only at hF hG
  obtain ⟨hl, ht, ht1, ht2, ht3, ht4, ht5, ht6⟩ := hT
  refine v_lv (lv' := [(4, _), (0, _), (1, _), (2, _), (3, _)]) rfl ?_
  refine v_use (fun H hP => F_chs hF hP.1) (fun hch => ?_)
  refine v_aload_n C dL_law_837 (j := 2) rfl rfl ?_
  refine v_arg C hX (i := i) (j := 1) (j0 := 1) (j4 := 0) (by omega) dL_law_838 dL_law_839 dL_law_841 dL_law_842 dL_law_843 (by decide) rfl rfl ?_
  refine v_arg C hX (i := i) (j := 2) (j0 := 1) (j4 := 0) (by omega) dL_law_844 dL_law_845 dL_law_847 dL_law_848 dL_law_849 (by decide) rfl rfl ?_
  refine v_aload_n C dL_law_850 (j := 4) rfl rfl ?_
  refine l_cS C (W_line hl ht ht4 ht6 hF _ _) (vx_cwSW 4 C.1.2.2.2.2 gL_law_L_line rfl rfl rfl (by decide +kernel) ⟨Nat.le_of_ble_eq_true rfl, Nat.le_of_ble_eq_true rfl⟩) rfl dL_law_851 (rest := []) (Nat.le_of_ble_eq_true rfl) rfl ⟨Nat.le_trans (show k + 2 ≤ k + 8 by omega) hk.1, Nat.le_trans (show n + 12 ≤ n + 88 by omega) hk.2⟩ (fun q x1 hq => ?_)
  obtain ⟨x1f, y1, g1⟩ := x1
  obtain ⟨hq1, hy1, hq2, hF1⟩ := hq
  have hy2 : y1 = (I, M) := hy1
  subst hy2
  refine v_istore C dL_law_854 (by decide) (lv' := [(5, _), (4, _), (0, _), (1, _), (2, _), (3, _)]) rfl ?_
  refine v_aload_n C dL_law_856 (j := 4) rfl rfl ?_
  refine v_arg C hX (i := i) (j := 1) (j0 := 2) (j4 := 1) (by omega) dL_law_857 dL_law_858 dL_law_860 dL_law_861 dL_law_862 (by decide) rfl rfl ?_
  refine v_arg C hX (i := i) (j := 2) (j0 := 2) (j4 := 1) (by omega) dL_law_863 dL_law_864 dL_law_866 dL_law_867 dL_law_868 (by decide) rfl rfl ?_
  refine l_iM C (fun n9 => M_line ht1 hG hch.2.2 _ _) (cwV 2 C.1.2.2.2.2 gL_law_X12_line rfl rfl rfl (by decide +kernel) ⟨Nat.le_of_ble_eq_true rfl, Nat.le_of_ble_eq_true rfl⟩) rfl dL_law_869 (rest := []) (Nat.le_of_ble_eq_true rfl) rfl ⟨Nat.le_trans (show k + 2 ≤ k + 8 by omega) hk.1, Nat.le_trans (show n + 12 ≤ n + 88 by omega) hk.2⟩ (fun r y2 hr => ?_)
  obtain ⟨I2, M2⟩ := y2
  refine v_istore C dL_law_872 (by decide) (lv' := [(6, _), (5, _), (4, _), (0, _), (1, _), (2, _), (3, _)]) rfl ?_
  refine v_aload_n C dL_law_874 (j := 5) rfl rfl ?_
  refine l_iM C (fun n9 => m_thrown) (cwV 0 C.1.2.2.2.2 gL_law_X12_thrown rfl rfl rfl (by decide +kernel) ⟨Nat.le_of_ble_eq_true rfl, Nat.le_of_ble_eq_true rfl⟩) rfl dL_law_875 (rest := []) (Nat.le_of_ble_eq_true rfl) rfl ⟨Nat.le_trans (show k + 2 ≤ k + 8 by omega) hk.1, Nat.le_trans (show n + 12 ≤ n + 88 by omega) hk.2⟩ (fun t y3 ht9 => ?_)
  obtain ⟨rfl, rfl⟩ := ht9
  obtain ⟨hr1, hr2, hG1⟩ := hr
  dsimp only at hr1 hq1
  refine v_iload C dL_law_878 (j := 1) rfl ?_
  refine v_icmp_eq C 885 dL_law_880 (by decide) (fun c1 => ?_) (fun c1 => ?_)
  · skip
    refine v_iload C dL_law_885 (j := 1) rfl ?_
    refine v_if_ne C 902 dL_law_887 (by decide) (fun c2 => ?_) (fun c2 => ?_)
    · skip
      refine v_goto C 918 dL_law_902 (by decide) ?_
      refine v_sub [2, 3, 4, 5, 6] rfl ?_
      exact v_kn (show k + 2 ≤ k + 8 by omega) (show n + 12 ≤ n + 88 by omega) (K _ (lI_of (okS_line hS1 ⟨N9, hS2, hS3⟩ _ _) hF1 hG1))
    · skip
      refine v_aload_n C dL_law_890 (j := 6) rfl rfl ?_
      refine v_iconst C dL_law_891 (v := 0) (by decide) ?_
      refine v_lald C dL_law_892 6 ht6 L_out in01 ?_
      refine v_iload C dL_law_893 (j := 0) rfl ?_
      refine v_i2l C dL_law_895 ?_
      refine v_lcmp C dL_law_896 ?_
      refine v_if_eq C 902 dL_law_897 (by decide) (fun c3 => ?_) (fun c3 => ?_)
      · skip
        refine v_goto C 918 dL_law_902 (by decide) ?_
        refine v_sub [2, 3, 4, 5, 6] rfl ?_
        exact v_kn (show k + 2 ≤ k + 8 by omega) (show n + 12 ≤ n + 88 by omega) (K _ (lI_of (okS_line hS1 ⟨N9, hS2, hS3⟩ _ _) hF1 hG1))
      · skip
        refine absurd ?_ c3
        rw [show (0 : Int32).toNatClampNeg = 0 from by decide, show g1 0 = _ from hq2 c2, hr2 (hq1.symm.trans c2)]
        exact cmp_self _
  · skip
    exact absurd (hr1.trans hq1.symm) c1
set_option maxRecDepth 100000 in
set_option maxHeartbeats 4000000 in
theorem law_faults (hT : lwT l tys cC cI cZ cR cT cO cJ) (C : cx p s m args meth c code 7 wsL_law RL D tys z0 A) (hX : va_X b L xs s s.heap ∧ b < s.heap.size ∧ ¬ A b ∧ L ≤ 3584) (hi : i + 7 ≤ L) (hN : N < 512) (hk : k + 8 ≤ room_1.cells ∧ n + 88 ≤ room_1.slots) {x : lS} (hI : lI z0 cI cO cT cR a na N x) (K : ∀ x', lI z0 cI cO cT cR a na (N + 1) x' → vv (picL D cC cI cZ cJ md oa ad A) A 7 p l e room_1 s m args below meth c Q x' (k + 8) (n + 88) 918 (lvL i b (a 0) md oa) []) : vv (picL D cC cI cZ cJ md oa ad A) A 7 p l e room_1 s m args below meth c Q x k n 905 (lvL i b (a 0) md oa) [] := by
  obtain ⟨xf, ⟨I, M⟩, g⟩ := x
  obtain ⟨S, hS1, ⟨N9, hS2, hS3⟩, hF, hG⟩ := hI
  dsimp only at hF hG
  obtain ⟨hl, ht, ht1, ht2, ht3, ht4, ht5, ht6⟩ := hT
  refine v_lv (lv' := [(4, _), (0, _), (1, _), (2, _), (3, _)]) rfl ?_
  refine v_aload_n C dL_law_905 (j := 2) rfl rfl ?_
  refine l_iF C (ci := 11) (F_faults hF) (cwV 0 C.1.2.2.2.2 gL_law_X11_faults rfl rfl rfl (by decide +kernel) ⟨Nat.le_of_ble_eq_true rfl, Nat.le_of_ble_eq_true rfl⟩) rfl rfl hF.gC dL_law_906 (rest := []) (Nat.le_of_ble_eq_true rfl) rfl ⟨Nat.le_trans (show k + 0 ≤ k + 8 by omega) hk.1, Nat.le_trans (show n + 0 ≤ n + 88 by omega) hk.2⟩ (fun q x1f hq => ?_)
  refine v_aload_n C dL_law_909 (j := 3) rfl rfl ?_
  refine l_iM C (fun n9 => M_faults hG) (cwV 0 C.1.2.2.2.2 gL_law_X12_faults rfl rfl rfl (by decide +kernel) ⟨Nat.le_of_ble_eq_true rfl, Nat.le_of_ble_eq_true rfl⟩) rfl dL_law_910 (rest := [_]) (Nat.le_of_ble_eq_true rfl) rfl ⟨Nat.le_trans (show k + 0 ≤ k + 8 by omega) hk.1, Nat.le_trans (show n + 0 ≤ n + 88 by omega) hk.2⟩ (fun r y2 hr => ?_)
  obtain ⟨hr1, hr2, hG1⟩ := hr
  obtain ⟨hq1, hF1⟩ := hq
  refine v_icmp_eq C 918 dL_law_913 (by decide) (fun c1 => ?_) (fun c1 => ?_)
  · skip
    exact v_kn (show k + 0 ≤ k + 8 by omega) (show n + 0 ≤ n + 88 by omega) (K _ (lI_of (okS_same hS1 ⟨N9, hS2, hS3⟩) hF1 hG1))
  · skip
    exact absurd (hq1.trans (hr2 rfl).symm) c1
end LW
