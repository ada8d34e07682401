/-! ===== the law: one thing done: a separator, a field set ===== -/
theorem wwcL_isDone_k50 : Cond.constant RL 50 (-200000) ∈ wsL_isDone := by decide +kernel
theorem wwcL_isDone_k47 : Cond.constant RL 47 (-300000) ∈ wsL_isDone := by decide +kernel
theorem isCd_n {k : Nat} (h : k < 2 ^ 31) : isCd (nI k) = decide (k ≤ 37) := by unfold isCd; rw [decide_eq_true (nI_pos' h), Bool.true_and]; exact decide_eq_decide.mpr (nI_leI (b := 37) h (by decide))
theorem opSep_n (S : aS) (z : Int32) : (opSep S z).2.2.2.1 = S.2.1 := by unfold opSep; split <;> rfl
theorem opSetF_n (S : aS) (z n0 : Int32) : (opSetF S z n0).2.2.2.1 = S.2.1 := by unfold opSetF; split <;> rfl
section DS
variable {p : Program} {l : Launch} {e : Env} {s : State} {m : MethodId} {args : Array Value} {below : List Frame} {meth : Method} {c : Code}
variable {D : va_G} {tys : List (ClassId × FieldType)} {z0 : Nat} {A : Nat → Prop} {cC cI cJ cO cT cR : ClassId} {b i : Nat} {ad al a na : Nat → Nat} {xf : fS} {X : Nat → Nat → Int32} {Y : Nat → Nat → Int64} {S : aS} {t0 t1 t2 t3 : Nat}
set_option maxRecDepth 100000 in
set_option maxHeartbeats 16000000 in
theorem done_sep (hT : lwT l tys cC cI cR cT cO cJ) (C : cx p s m args meth c cL_isDone 26 wsL_isDone RL D tys z0 A) (hr : meth.sig.returnType = some .boolean) (h1 : t1 < 6000) (h2 : t2 < 7000) (h3 : t3 < 8000) (hF : fI z0 cI cO cT cR a na xf S) (hA : nA X Y S) (hk : okS S) (hn : ∃ N, N + 1 < 1000000000 ∧ S.2.1 = nI N) : vv (picL D cC cI cJ ad al A) A 26 p l e ({ frames := 12, cells := 30, slots := 200, locals := 400 } : Room) s m args below meth c (MQ below (qI (picL D cC cI cJ ad al A) A (dnP z0 cI cO cT cR a na S)) args s 30 200 A) (xf, X, Y) 0 0 587 [(17, .int (nI t3)), (16, .int (nI t2)), (15, .int (nI t1)), (14, .int (nI t0)), (0, .ref (a 0)), (1, .ref b), (2, .int (nI i)), (3, .ref (ad 0)), (4, .ref (ad 1)), (5, .ref (ad 2)), (6, .ref (ad 3)), (7, .ref (ad 4)), (8, .ref (al 0)), (9, .ref (ad 5)), (10, .ref (ad 6)), (11, .ref (al 1)), (12, .ref (al 2)), (13, .ref (al 3))] [] := by
  obtain ⟨hl, ht, ht1, ht3, ht4, ht5, ht6⟩ := hT
  obtain ⟨⟨e0, e1, e3, eR⟩, eW⟩ := hA
  refine v_cut (pcj := 611) (lvj := [(17, .int (nI t3)), (16, .int (nI t2)), (15, .int (nI t1)), (14, .int (nI t0)), (0, .ref (a 0)), (1, .ref b), (2, .int (nI i)), (3, .ref (ad 0)), (4, .ref (ad 1)), (5, .ref (ad 2)), (6, .ref (ad 3)), (7, .ref (ad 4)), (8, .ref (al 0)), (9, .ref (ad 5)), (10, .ref (ad 6)), (11, .ref (al 1)), (12, .ref (al 2)), (13, .ref (al 3))]) (stj := []) (fun w => ∃ k, k < 39 ∧ w = nI k) (fun w hw => ?_) (fun K => ?_)
  · skip
    obtain ⟨ck, hck, rfl⟩ := hw
    have hcd := isCd_n (k := ck) (by omega)
    obtain ⟨due, hdue⟩ : ∃ due, dval [-200000] (opSep S (nI ck)) = due := ⟨_, rfl⟩
    refine v_istore C dL_isDone_611 (by decide) (lv' := [(18, _), (17, _), (16, _), (15, _), (14, _), (0, _), (1, _), (2, _), (3, _), (4, _), (5, _), (6, _), (7, _), (8, _), (9, _), (10, _), (11, _), (12, _), (13, _)]) rfl ?_
    refine v_cutX (pcj := 652) (fun w : (Nat → Nat → Int32) => (xf, w, Y)) (fun _ => [(19, .int due), (18, .int (nI ck)), (16, .int (nI t2)), (0, .ref (a 0)), (1, .ref b), (2, .int (nI i)), (3, .ref (ad 0)), (4, .ref (ad 1)), (5, .ref (ad 2)), (6, .ref (ad 3)), (7, .ref (ad 4)), (8, .ref (al 0)), (9, .ref (ad 5)), (10, .ref (ad 6)), (11, .ref (al 1)), (12, .ref (al 2)), (13, .ref (al 3))]) (fun _ => []) (fun w => nA w Y (opSep S (nI ck)).2.2 ∧ okS (opSep S (nI ck)).2.2) (fun w9 hw => ?_) (fun K => ?_)
    · skip
      obtain ⟨u1, u2⟩ := hw
      refine v_cut (pcj := 665) (lvj := [(19, .int due), (18, .int (nI ck)), (16, .int (nI t2)), (0, .ref (a 0)), (1, .ref b), (2, .int (nI i)), (3, .ref (ad 0)), (4, .ref (ad 1)), (5, .ref (ad 2)), (6, .ref (ad 3)), (7, .ref (ad 4)), (8, .ref (al 0)), (9, .ref (ad 5)), (10, .ref (ad 6)), (11, .ref (al 1)), (12, .ref (al 2)), (13, .ref (al 3))]) (stj := [.ref (a 0)]) (fun w => ∃ bb : Bool, w = bI bb) (fun w hw => ?_) (fun K => ?_)
      · skip
        obtain ⟨bb, hbb⟩ := hw
        rw [hbb]
        refine l_vF C (ci := 11) (F_useStack hF bb) (cwV 1 C.1.2.2.2.2 gL_isDone_X11_useStack rfl rfl rfl (by decide +kernel) ⟨Nat.le_of_ble_eq_true rfl, Nat.le_of_ble_eq_true rfl⟩) rfl rfl hF.gC dL_isDone_665 (rest := []) (Nat.le_of_ble_eq_true rfl) rfl ⟨(by first | exact Nat.le_of_ble_eq_true rfl | (dsimp only [rmL, rm0]; omega)), (by first | exact Nat.le_of_ble_eq_true rfl | (dsimp only [rmL, rm0]; omega))⟩ (fun x1 hF1 => ?_)
        refine v_aload_n C dL_isDone_668 (j := 3) rfl rfl ?_
        refine v_iconst C dL_isDone_669 (v := 2) (by decide) ?_
        refine v_iload C dL_isDone_670 (j := 1) rfl ?_
        refine v_iconst C dL_isDone_672 (v := 0) (by decide) ?_
        refine v_iconst C dL_isDone_673 (v := 0) (by decide) ?_
        refine l_cS C (D_setSeparator hl ht ht4 hF1 (nI ck) 0 0) (vx_cwSW 5 C.1.2.2.2.2 gL_isDone_L_does rfl rfl rfl (by decide +kernel) ⟨Nat.le_of_ble_eq_true rfl, Nat.le_of_ble_eq_true rfl⟩) rfl dL_isDone_674 (rest := []) (Nat.le_of_ble_eq_true rfl) rfl ⟨(by first | exact Nat.le_of_ble_eq_true rfl | (dsimp only [rmL, rm0]; omega)), (by first | exact Nat.le_of_ble_eq_true rfl | (dsimp only [rmL, rm0]; omega))⟩ (fun q x' hp => ?_)
        obtain ⟨x3, rfl, rfl, hF3⟩ := hp
        rw [hdue]
        refine v_iload C dL_isDone_677 (j := 0) rfl ?_
        refine v_icmp_ne C 686 dL_isDone_679 (by decide) (fun b1 => absurd b1 (fun q => q rfl)) (fun b1 => ?_)
        refine v_iconst C dL_isDone_682 (v := 1) (by decide) ?_
        refine v_goto C 687 dL_isDone_683 (by decide) ?_
        exact v_ireturn C dL_isDone_687 hr (rfl) (Nat.le_of_ble_eq_true rfl) (Nat.le_of_ble_eq_true rfl) (⟨x3, w9, Y, _, rfl, rfl, hF3, u1, u2, Or.inl (opSep_n S _)⟩)
      · skip
        refine v_aload_n C dL_isDone_652 (j := 3) rfl rfl ?_
        refine v_iload C dL_isDone_653 (j := 2) rfl ?_
        refine v_iconst C dL_isDone_655 (v := 2) (by decide) ?_
        refine v_irem C dL_isDone_656 (by decide) ?_
        refine v_if_ne C 664 dL_isDone_657 (by decide) (fun c1 => ?_) (fun c1 => ?_)
        · skip
          refine v_iconst C dL_isDone_664 (v := 0) (by decide) ?_
          exact K _ ⟨false, rfl⟩
        · skip
          refine v_iconst C dL_isDone_660 (v := 1) (by decide) ?_
          refine v_goto C 665 dL_isDone_661 (by decide) ?_
          exact K _ ⟨true, rfl⟩
    · skip
      by_cases hc : ck ≤ 37
      · skip
        have hcd2 : isCd (nI ck) = true := by rw [hcd]; exact decide_eq_true hc
        have hop : opSep S (nI ck) = (0, nI (nfd (sgn (nI ck)) S.2.2.2.1.1), (sgn (nI ck), S.2.1, S.2.2.1, S.2.2.2.1, S.2.2.2.2)) := by unfold opSep; rw [if_pos hcd2]
        obtain rfl : due = nI (nfd (sgn (nI ck)) S.2.2.2.1.1) := by rw [← hdue, hop]; rfl
        rw [hop] at K
        refine v_iload C dL_isDone_613 (j := 0) rfl ?_
        refine v_bipush C dL_isDone_615 (v := 37) (by decide) ?_
        refine v_icmp_le C 625 dL_isDone_617 (by decide) (fun b1 => ?_) (fun b1 => absurd b1 (fun q => q ((nI_leI (b := 37) (by omega) (by decide)).mpr hc)))
        refine v_iconst C dL_isDone_625 (v := 0) (by decide) ?_
        refine v_istore C dL_isDone_626 (by decide) (lv' := [(19, _), (18, _), (17, _), (16, _), (15, _), (14, _), (0, _), (1, _), (2, _), (3, _), (4, _), (5, _), (6, _), (7, _), (8, _), (9, _), (10, _), (11, _), (12, _), (13, _)]) rfl ?_
        refine v_iload C dL_isDone_628 (j := 1) rfl ?_
        refine v_bipush C dL_isDone_630 (v := 38) (by decide) ?_
        refine v_icmp_ge C 652 dL_isDone_632 (by decide) (fun b2 => absurd b2 (fun q => by have := le_of (a := 38) q (by decide) (by omega); omega)) (fun b2 => ?_)
        refine v_aload C dL_isDone_635 (j := 15) rfl ?_
        refine v_iconst C dL_isDone_637 (v := 0) (by decide) ?_
        refine v_iload C dL_isDone_638 (j := 1) rfl ?_
        refine v_ci (v_runS C (n_sign hcd2) (va_cwS 1 C.1.2.2.2.2 gL_isDone_L_sign rfl rfl rfl (by decide +kernel) ⟨Nat.le_of_ble_eq_true rfl, Nat.le_of_ble_eq_true rfl⟩) rfl dL_isDone_640 (rest := [_, _]) (Nat.le_of_ble_eq_true rfl) rfl ⟨(by first | exact Nat.le_of_ble_eq_true rfl | (dsimp only [rmL, rm0]; omega)), (by first | exact Nat.le_of_ble_eq_true rfl | (dsimp only [rmL, rm0]; omega))⟩) (fun q x' hx' => ?_)
        obtain ⟨rfl, rfl⟩ := hx'
        refine v_iast C dL_isDone_643 1 ht1 (by unfold vp_in; decide) (N_sg _) ?_
        obtain ⟨X1, hX1, m0, mo, mc⟩ : ∃ X1, X1 = va_up X 5 (upd (X 5) (0 : Int32).toNatClampNeg (sgn (nI ck))) ∧ X1 5 0 = sgn (nI ck) ∧ (∀ j, j ≠ 0 → X1 5 j = X 5 j) ∧ ich [5] X X1 := ⟨_, rfl, by rw [va_up_same]; rfl, fun j hj => by rw [va_up_same]; exact if_neg hj, ich_u (by decide) _⟩
        rw [← hX1]
        clear hX1
        refine v_aload_n C dL_isDone_644 (j := 9) rfl rfl ?_
        refine v_aload C dL_isDone_645 (j := 15) rfl ?_
        refine v_ci (v_runS C (n_fields ht1 (eW.1.ch mc (by decide)) m0) (va_cwS 2 C.1.2.2.2.2 gL_isDone_L_fields rfl rfl rfl (by decide +kernel) ⟨Nat.le_of_ble_eq_true rfl, Nat.le_of_ble_eq_true rfl⟩) rfl dL_isDone_647 (rest := []) (Nat.le_of_ble_eq_true rfl) rfl ⟨(by first | exact Nat.le_of_ble_eq_true rfl | (dsimp only [rmL, rm0]; omega)), (by first | exact Nat.le_of_ble_eq_true rfl | (dsimp only [rmL, rm0]; omega))⟩) (fun q x' hx' => ?_)
        obtain ⟨rfl, rfl⟩ := hx'
        refine v_istore C dL_isDone_650 (by decide) (lv' := [(19, _), (18, _), (17, _), (16, _), (15, _), (14, _), (0, _), (1, _), (2, _), (3, _), (4, _), (5, _), (6, _), (7, _), (8, _), (9, _), (10, _), (11, _), (12, _), (13, _)]) rfl ?_
        refine v_sub [0, 1, 3, 6, 7, 8, 9, 10, 11, 12, 13, 14, 15, 16, 17, 18, 19] rfl ?_
        exact K X1 ⟨⟨⟨m0, (mo 1 (by decide)).trans e1, e3.ch mc (by decide), eR.ch (mo 3 (by decide)) (mc 4 (by decide)) rfl⟩, eW.1.ch mc (by decide), eW.2.1.ch (mo 4 (by decide)) (mc 6 (by decide)) rfl rfl, eW.2.2.1.ch (mo 5 (by decide)) rfl, (mo 2 (by decide)).trans eW.2.2.2⟩, sgn_al hcd2, hk.2⟩
      · skip
        have hop : opSep S (nI ck) = (1, 0, S) := by unfold opSep; rw [if_neg (by rw [hcd, decide_eq_true_eq]; exact hc)]
        obtain rfl : due = -200000 := by rw [← hdue, hop]; rfl
        rw [hop] at K
        refine v_iload C dL_isDone_613 (j := 0) rfl ?_
        refine v_bipush C dL_isDone_615 (v := 37) (by decide) ?_
        refine v_icmp_le C 625 dL_isDone_617 (by decide) (fun b1 => absurd b1 (fun q => hc ((nI_leI (b := 37) (by omega) (by decide)).mp q))) (fun b1 => ?_)
        refine v_ldc C dL_isDone_620 (v := (-200000)) wwcL_isDone_k50 ?_
        refine v_goto C 626 dL_isDone_622 (by decide) ?_
        refine v_istore C dL_isDone_626 (by decide) (lv' := [(19, _), (18, _), (17, _), (16, _), (15, _), (14, _), (0, _), (1, _), (2, _), (3, _), (4, _), (5, _), (6, _), (7, _), (8, _), (9, _), (10, _), (11, _), (12, _), (13, _)]) rfl ?_
        refine v_iload C dL_isDone_628 (j := 1) rfl ?_
        refine v_bipush C dL_isDone_630 (v := 38) (by decide) ?_
        refine v_icmp_ge C 652 dL_isDone_632 (by decide) (fun b2 => ?_) (fun b2 => absurd b2 (fun q => q ((nI_leI (a := 38) (by decide) (by omega)).mpr (by omega))))
        refine v_sub [0, 1, 3, 6, 7, 8, 9, 10, 11, 12, 13, 14, 15, 16, 17, 18, 19] rfl ?_
        exact K X ⟨⟨⟨e0, e1, e3, eR⟩, eW⟩, hk⟩
  · skip
    refine v_iload C dL_isDone_587 (j := 2) rfl ?_
    refine v_bipush C dL_isDone_589 (v := 8) (by decide) ?_
    refine v_irem C dL_isDone_591 (by decide) ?_
    refine v_int (b := nI (t1 % 8)) (pk_rem (d := 8) (by omega) (by decide) (by decide)) ?_
    refine v_iconst C dL_isDone_592 (v := 5) (by decide) ?_
    refine v_icmp_ge C 606 dL_isDone_593 (by decide) (fun c1 => ?_) (fun c1 => ?_)
    · skip
      refine v_iload C dL_isDone_606 (j := 2) rfl ?_
      refine v_bipush C dL_isDone_608 (v := 39) (by decide) ?_
      refine v_irem C dL_isDone_610 (by decide) ?_
      exact K _ ⟨t1 % 39, Nat.mod_lt _ (by decide), pk_rem (d := 39) (by omega) (by decide) (by decide)⟩
    · skip
      refine v_bipush C dL_isDone_596 (v := 36) (by decide) ?_
      refine v_iload C dL_isDone_598 (j := 2) rfl ?_
      refine v_iconst C dL_isDone_600 (v := 2) (by decide) ?_
      refine v_irem C dL_isDone_601 (by decide) ?_
      refine v_int (b := nI (t1 % 2)) (pk_rem (d := 2) (by omega) (by decide) (by decide)) ?_
      refine v_iadd C dL_isDone_602 ?_
      refine v_goto C 611 dL_isDone_603 (by decide) ?_
      exact K _ ⟨36 + t1 % 2, by have := Nat.mod_lt t1 (show 0 < 2 by decide); omega, nI_add 36 _⟩
set_option maxRecDepth 100000 in
set_option maxHeartbeats 16000000 in
theorem done_setf (hT : lwT l tys cC cI cR cT cO cJ) (C : cx p s m args meth c cL_isDone 26 wsL_isDone RL D tys z0 A) (hr : meth.sig.returnType = some .boolean) (h1 : t1 < 6000) (h2 : t2 < 7000) (h3 : t3 < 8000) (hF : fI z0 cI cO cT cR a na xf S) (hA : nA X Y S) (hk : okS S) (hn : ∃ N, N + 1 < 1000000000 ∧ S.2.1 = nI N) : vv (picL D cC cI cJ ad al A) A 26 p l e ({ frames := 12, cells := 30, slots := 200, locals := 400 } : Room) s m args below meth c (MQ below (qI (picL D cC cI cJ ad al A) A (dnP z0 cI cO cT cR a na S)) args s 30 200 A) (xf, X, Y) 0 0 695 [(17, .int (nI t3)), (16, .int (nI t2)), (15, .int (nI t1)), (14, .int (nI t0)), (0, .ref (a 0)), (1, .ref b), (2, .int (nI i)), (3, .ref (ad 0)), (4, .ref (ad 1)), (5, .ref (ad 2)), (6, .ref (ad 3)), (7, .ref (ad 4)), (8, .ref (al 0)), (9, .ref (ad 5)), (10, .ref (ad 6)), (11, .ref (al 1)), (12, .ref (al 2)), (13, .ref (al 3))] [] := by
  obtain ⟨hl, ht, ht1, ht3, ht4, ht5, ht6⟩ := hT
  obtain ⟨⟨e0, e1, e3, eR⟩, eW⟩ := hA
  have hsep := al_ch _ hk.1
  refine v_iload C dL_isDone_695 (j := 2) rfl ?_
  refine v_bipush C dL_isDone_697 (v := 14) (by decide) ?_
  refine v_irem C dL_isDone_699 (by decide) ?_
  refine v_int (b := nI (t1 % 14)) (pk_rem (d := 14) (by omega) (by decide) (by decide)) ?_
  have hfk : t1 % 14 < 14 := Nat.mod_lt _ (by decide)
  obtain ⟨fk, hfk9⟩ : ∃ fk, t1 % 14 = fk := ⟨_, rfl⟩
  rw [hfk9] at hfk ⊢
  clear hfk9
  refine v_istore C dL_isDone_700 (by decide) (lv' := [(18, _), (17, _), (16, _), (15, _), (14, _), (0, _), (1, _), (2, _), (3, _), (4, _), (5, _), (6, _), (7, _), (8, _), (9, _), (10, _), (11, _), (12, _), (13, _)]) rfl ?_
  refine v_cut (pcj := 730) (lvj := [(18, .int (nI fk)), (17, .int (nI t3)), (16, .int (nI t2)), (15, .int (nI t1)), (14, .int (nI t0)), (0, .ref (a 0)), (1, .ref b), (2, .int (nI i)), (3, .ref (ad 0)), (4, .ref (ad 1)), (5, .ref (ad 2)), (6, .ref (ad 3)), (7, .ref (ad 4)), (8, .ref (al 0)), (9, .ref (ad 5)), (10, .ref (ad 6)), (11, .ref (al 1)), (12, .ref (al 2)), (13, .ref (al 3))]) (stj := []) (fun w => True) (fun w hw => ?_) (fun K => ?_)
  · skip
    obtain ⟨n0, hn0⟩ : ∃ n0, w = n0 := ⟨_, rfl⟩
    rw [hn0]
    clear hn0 hw w
    refine v_istore C dL_isDone_730 (by decide) (lv' := [(19, _), (18, _), (17, _), (16, _), (15, _), (14, _), (0, _), (1, _), (2, _), (3, _), (4, _), (5, _), (6, _), (7, _), (8, _), (9, _), (10, _), (11, _), (12, _), (13, _)]) rfl ?_
    by_cases hc : fk ≤ 12
    · skip
      have hfd := isFd_k hc
      have hop : opSetF S (nI fk) n0 = (0, nI (nfd S.1 (setR S.1 S.2.2.2.1.1 fk (dec n0))), (S.1, S.2.1, S.2.2.1, (setR S.1 S.2.2.2.1.1 fk (dec n0), S.2.2.2.1.2), S.2.2.2.2)) := by unfold opSetF; rw [if_pos hfd, nI_clamp (by omega)]
      refine v_iload C dL_isDone_732 (j := 1) rfl ?_
      refine v_bipush C dL_isDone_734 (v := 13) (by decide) ?_
      refine v_icmp_ge C 764 dL_isDone_736 (by decide) (fun b1 => absurd b1 (fun q => by have := le_of (a := 13) q (by decide) (by omega); omega)) (fun b1 => ?_)
      refine v_aload C dL_isDone_739 (j := 10) rfl ?_
      refine v_bipush C dL_isDone_741 (v := 60) (by decide) ?_
      refine v_iconst C dL_isDone_743 (v := 0) (by decide) ?_
      refine v_iast C dL_isDone_744 1 ht1 (by unfold vp_in; decide) (N_st (j := 1) (by decide) _) ?_
      obtain ⟨X1, hX1, c1, m1⟩ : ∃ X1, X1 = va_up X 1 (upd (X 1) (60 : Int32).toNatClampNeg 0) ∧ ich [1] X X1 ∧ nT 1 X1 [] := ⟨_, rfl, ich_u (by decide) _, nT_0⟩
      rw [← hX1]
      clear hX1
      refine v_aload C dL_isDone_745 (j := 10) rfl ?_
      refine v_iload C dL_isDone_747 (j := 0) rfl ?_
      refine v_cv (v_runS C (n_writes ht1 m1 n0) (va_cwS 2 C.1.2.2.2.2 gL_isDone_L_writes rfl rfl rfl (by decide +kernel) ⟨Nat.le_of_ble_eq_true rfl, Nat.le_of_ble_eq_true rfl⟩) rfl dL_isDone_749 (rest := []) (Nat.le_of_ble_eq_true rfl) rfl ⟨(by first | exact Nat.le_of_ble_eq_true rfl | (dsimp only [rmL, rm0]; omega)), (by first | exact Nat.le_of_ble_eq_true rfl | (dsimp only [rmL, rm0]; omega))⟩) (fun x' hx' => ?_)
      obtain ⟨X2, rfl, m2, c2⟩ := hx'
      rw [app60_0 (by have := dec_len n0; omega)] at m2
      have c12 := c1.tr c2
      refine v_aload_n C dL_isDone_752 (j := 9) rfl rfl ?_
      refine v_aload C dL_isDone_753 (j := 10) rfl ?_
      refine v_aload C dL_isDone_755 (j := 11) rfl ?_
      refine v_aload C dL_isDone_757 (j := 15) rfl ?_
      refine v_iload C dL_isDone_759 (j := 1) rfl ?_
      refine v_cv (v_runS C (n_sets ht1 (eW.1.ch c12 (by decide)) m2 ((congrFun (c12 5 (by decide)) 0).trans e0) (its := fk) hc) (va_cwS 5 C.1.2.2.2.2 gL_isDone_L_sets rfl rfl rfl (by decide +kernel) ⟨Nat.le_of_ble_eq_true rfl, Nat.le_of_ble_eq_true rfl⟩) rfl dL_isDone_761 (rest := []) (Nat.le_of_ble_eq_true rfl) rfl ⟨(by first | exact Nat.le_of_ble_eq_true rfl | (dsimp only [rmL, rm0]; omega)), (by first | exact Nat.le_of_ble_eq_true rfl | (dsimp only [rmL, rm0]; omega))⟩) (fun x' hx' => ?_)
      obtain ⟨X3, rfl, m3, c3⟩ := hx'
      have cc : ich [0, 1, 2] X X3 := (c12.mo (by decide)).tr (c3.mo (by decide))
      have c5 := cc 5 (by decide)
      refine v_aload_n C dL_isDone_764 (j := 6) rfl rfl ?_
      refine v_iconst C dL_isDone_765 (v := 4) (by decide) ?_
      refine v_iload C dL_isDone_766 (j := 1) rfl ?_
      refine v_iload C dL_isDone_768 (j := 0) rfl ?_
      refine v_iconst C dL_isDone_770 (v := 0) (by decide) ?_
      refine l_cS C (D_setField hl ht ht4 hsep hF (nI fk) n0 0) (vx_cwSW 5 C.1.2.2.2.2 gL_isDone_L_does rfl rfl rfl (by decide +kernel) ⟨Nat.le_of_ble_eq_true rfl, Nat.le_of_ble_eq_true rfl⟩) rfl dL_isDone_771 (rest := []) (Nat.le_of_ble_eq_true rfl) rfl ⟨(by first | exact Nat.le_of_ble_eq_true rfl | (dsimp only [rmL, rm0]; omega)), (by first | exact Nat.le_of_ble_eq_true rfl | (dsimp only [rmL, rm0]; omega))⟩ (fun q x' hp => ?_)
      obtain ⟨x3, rfl, rfl, hF3⟩ := hp
      rw [hop] at hF3 ⊢
      refine v_iload C dL_isDone_774 (j := 1) rfl ?_
      refine v_bipush C dL_isDone_776 (v := 13) (by decide) ?_
      refine v_icmp_ge C 790 dL_isDone_778 (by decide) (fun b2 => absurd b2 (fun q => by have := le_of (a := 13) q (by decide) (by omega); omega)) (fun b2 => ?_)
      refine v_aload_n C dL_isDone_781 (j := 9) rfl rfl ?_
      refine v_aload C dL_isDone_782 (j := 15) rfl ?_
      refine v_ci (v_runS C (n_fields ht1 m3 ((congrFun c5 0).trans e0)) (va_cwS 2 C.1.2.2.2.2 gL_isDone_L_fields rfl rfl rfl (by decide +kernel) ⟨Nat.le_of_ble_eq_true rfl, Nat.le_of_ble_eq_true rfl⟩) rfl dL_isDone_784 (rest := [_]) (Nat.le_of_ble_eq_true rfl) rfl ⟨(by first | exact Nat.le_of_ble_eq_true rfl | (dsimp only [rmL, rm0]; omega)), (by first | exact Nat.le_of_ble_eq_true rfl | (dsimp only [rmL, rm0]; omega))⟩) (fun q x' hx' => ?_)
      obtain ⟨rfl, rfl⟩ := hx'
      refine v_goto C 792 dL_isDone_787 (by decide) ?_
      refine v_icmp_ne C 799 dL_isDone_792 (by decide) (fun b3 => absurd b3 (fun q => q rfl)) (fun b3 => ?_)
      refine v_iconst C dL_isDone_795 (v := 1) (by decide) ?_
      refine v_goto C 800 dL_isDone_796 (by decide) ?_
      exact v_ireturn C dL_isDone_800 hr (rfl) (Nat.le_of_ble_eq_true rfl) (Nat.le_of_ble_eq_true rfl) (⟨x3, X3, Y, _, rfl, rfl, hF3, ⟨⟨(congrFun c5 0).trans e0, (congrFun c5 1).trans e1, e3.ch cc (by decide), eR.ch (congrFun c5 3) (cc 4 (by decide)) rfl⟩, m3, eW.2.1.ch (congrFun c5 4) (cc 6 (by decide)) rfl rfl, eW.2.2.1.ch (congrFun c5 5) rfl, (congrFun c5 2).trans eW.2.2.2⟩, ⟨hk.1, hk.2.1, oks_setR hk.1 hk.2.2.1 (oks_dec _) _, m3.2.1, hk.2.2.2.2⟩, Or.inl rfl⟩)
    · skip
      have hfd : isFd (nI fk) = false := by rw [isFd_n (by omega)]; exact decide_eq_false hc
      have hop : opSetF S (nI fk) n0 = (1, 0, S) := by unfold opSetF; rw [if_neg (by rw [hfd]; decide)]
      refine v_iload C dL_isDone_732 (j := 1) rfl ?_
      refine v_bipush C dL_isDone_734 (v := 13) (by decide) ?_
      refine v_icmp_ge C 764 dL_isDone_736 (by decide) (fun b1 => ?_) (fun b1 => absurd b1 (fun q => q ((nI_leI (a := 13) (by decide) (by omega)).mpr (by omega))))
      refine v_aload_n C dL_isDone_764 (j := 6) rfl rfl ?_
      refine v_iconst C dL_isDone_765 (v := 4) (by decide) ?_
      refine v_iload C dL_isDone_766 (j := 1) rfl ?_
      refine v_iload C dL_isDone_768 (j := 0) rfl ?_
      refine v_iconst C dL_isDone_770 (v := 0) (by decide) ?_
      refine l_cS C (D_setField hl ht ht4 hsep hF (nI fk) n0 0) (vx_cwSW 5 C.1.2.2.2.2 gL_isDone_L_does rfl rfl rfl (by decide +kernel) ⟨Nat.le_of_ble_eq_true rfl, Nat.le_of_ble_eq_true rfl⟩) rfl dL_isDone_771 (rest := []) (Nat.le_of_ble_eq_true rfl) rfl ⟨(by first | exact Nat.le_of_ble_eq_true rfl | (dsimp only [rmL, rm0]; omega)), (by first | exact Nat.le_of_ble_eq_true rfl | (dsimp only [rmL, rm0]; omega))⟩ (fun q x' hp => ?_)
      obtain ⟨x3, rfl, rfl, hF3⟩ := hp
      rw [hop] at hF3 ⊢
      refine v_iload C dL_isDone_774 (j := 1) rfl ?_
      refine v_bipush C dL_isDone_776 (v := 13) (by decide) ?_
      refine v_icmp_ge C 790 dL_isDone_778 (by decide) (fun b2 => ?_) (fun b2 => absurd b2 (fun q => q ((nI_leI (a := 13) (by decide) (by omega)).mpr (by omega))))
      refine v_ldc C dL_isDone_790 (v := (-300000)) wwcL_isDone_k47 ?_
      refine v_icmp_ne C 799 dL_isDone_792 (by decide) (fun b3 => absurd b3 (fun q => q rfl)) (fun b3 => ?_)
      refine v_iconst C dL_isDone_795 (v := 1) (by decide) ?_
      refine v_goto C 800 dL_isDone_796 (by decide) ?_
      exact v_ireturn C dL_isDone_800 hr (rfl) (Nat.le_of_ble_eq_true rfl) (Nat.le_of_ble_eq_true rfl) (⟨x3, X, Y, S, rfl, rfl, hF3, ⟨⟨e0, e1, e3, eR⟩, eW⟩, hk, Or.inl rfl⟩)
  · skip
    refine v_iload C dL_isDone_702 (j := 2) rfl ?_
    refine v_iconst C dL_isDone_704 (v := 4) (by decide) ?_
    refine v_irem C dL_isDone_705 (by decide) ?_
    refine v_if_ne C 724 dL_isDone_706 (by decide) (fun c1 => ?_) (fun c1 => ?_)
    · skip
      refine v_iload C dL_isDone_724 (j := 1) rfl ?_
      refine v_sipush C dL_isDone_726 (v := 4000) (by decide) ?_
      refine v_isub C dL_isDone_729 ?_
      exact K _ trivial
    · skip
      refine v_iload C dL_isDone_709 (j := 1) rfl ?_
      refine v_bipush C dL_isDone_711 (v := 18) (by decide) ?_
      refine v_ishl C dL_isDone_713 ?_
      refine v_iload C dL_isDone_714 (j := 2) rfl ?_
      refine v_iconst C dL_isDone_716 (v := 3) (by decide) ?_
      refine v_irem C dL_isDone_717 (by decide) ?_
      refine v_iconst C dL_isDone_718 (v := 1) (by decide) ?_
      refine v_isub C dL_isDone_719 ?_
      refine v_imul C dL_isDone_720 ?_
      refine v_goto C 730 dL_isDone_721 (by decide) ?_
      exact K _ trivial
end DS
