/-! ===== the law: one thing done: an action ===== -/
theorem wwbL_isDone_k99 : Cond.constantLong RL 99 (5) ∈ wsL_isDone := by decide +kernel
theorem wwbL_isDone_k159 : Cond.constantLong RL 159 (13) ∈ wsL_isDone := by decide +kernel
theorem wwbL_isDone_k88 : Cond.constantLong RL 88 (10100) ∈ wsL_isDone := by decide +kernel
theorem wwbL_isDone_k53 : Cond.constant RL 53 (-100000) ∈ wsL_isDone := by decide +kernel
theorem wwbL_isDone_k50 : Cond.constant RL 50 (-200000) ∈ wsL_isDone := by decide +kernel
theorem wwbL_isDone_k47 : Cond.constant RL 47 (-300000) ∈ wsL_isDone := by decide +kernel
theorem isKd_n {k : Nat} (h : k < 2 ^ 31) : isKd (nI k) = decide (k ≤ 4) := by unfold isKd; rw [decide_eq_true (nI_pos' h), Bool.true_and]; exact decide_eq_decide.mpr (nI_leI (b := 4) h (by decide))
theorem isAc_n {kk fk ok : Nat} {xx yy : Int32} (h1 : kk ≤ 5) (h2 : fk < 14) (h3 : ok < 5) (hx : okOp xx) (hy : yy = 10000 ∨ okOp yy) : isAc (nI kk, nI fk, nI ok, xx, yy) = decide (kk < 5 ∧ fk < 13 ∧ ¬ 10000 ≤ yy) := by
  unfold isAc
  dsimp only
  have e1 : isOpd yy = decide (¬ 10000 ≤ yy) := by
    rcases hy with q | q
    · rw [q]; decide
    · rw [okOp_is q]; exact (decide_eq_true (okOp_lt q)).symm
  rw [isKd_n (by omega), isFd_n (by omega), isKd_n (by omega), okOp_is hx, e1, Bool.eq_iff_iff]
  by_cases hy9 : 10000 ≤ yy
  · simp [hy9]
  · simp [hy9]
    omega
theorem opAct_n (S : aS) (z kd fd op x y : Int32) : (opAct S z kd fd op x y).2.2.2.1 = S.2.1 := by
  unfold opAct
  split
  · split
    · split <;> rfl
    · rfl
  · rfl
theorem pk_row {kk fk ok : Nat} {xx yy : Int32} (h1 : kk < 5) (h2 : fk < 13) (h3 : ok < 5) (hx : okOp xx) (hy : okOp yy) : (nI kk).toInt64 + 5 * ((nI fk).toInt64 + 13 * ((nI ok).toInt64 + 5 * ((xx + 30).toInt64 + 10100 * (yy + 30).toInt64))) = lN (pkA (nI kk, nI fk, nI ok, xx, yy)) := by
  obtain ⟨k4, h4, e4⟩ := op30 hx
  obtain ⟨k5, h5, e5⟩ := op30 hy
  unfold pkA
  dsimp only
  rw [e4, e5, nI_l (by omega), nI_l (by omega), nI_l (by omega), nI_l (by omega), nI_l (by omega), nI_clamp (by omega), nI_clamp (by omega), nI_clamp (by omega), nI_clamp (by omega), nI_clamp (by omega), show (5 : Int64) = lN 5 from rfl, show (13 : Int64) = lN 13 from rfl, show (10100 : Int64) = lN 10100 from rfl, lN_mul, lN_add, lN_mul, lN_add, lN_mul, lN_add, lN_mul, lN_add]
section DA
variable {p : Program} {l : Launch} {e : Env} {s : State} {m : MethodId} {args : Array Value} {below : List Frame} {meth : Method} {c : Code}
variable {D : va_G} {tys : List (ClassId × FieldType)} {z0 : Nat} {A : Nat → Prop} {cC cI cJ cO cT cR : ClassId} {b i : Nat} {ad al a na : Nat → Nat} {xf : fS} {X : Nat → Nat → Int32} {Y : Nat → Nat → Int64} {S : aS} {t0 t1 t2 t3 : Nat}
set_option maxRecDepth 100000 in
set_option maxHeartbeats 16000000 in
theorem done_act (hT : lwT l tys cC cI cR cT cO cJ) (C : cx p s m args meth c cL_isDone 26 wsL_isDone RL D tys z0 A) (hr : meth.sig.returnType = some .boolean) (h1 : t1 < 6000) (h2 : t2 < 7000) (h3 : t3 < 8000) (hF : fI z0 cI cO cT cR a na xf S) (hA : nA X Y S) (hk : okS S) (hn : ∃ N, N + 1 < 1000000000 ∧ S.2.1 = nI N) : vv (picL D cC cI cJ ad al A) A 26 p l e ({ frames := 12, cells := 30, slots := 200, locals := 400 } : Room) s m args below meth c (MQ below (qI (picL D cC cI cJ ad al A) A (dnP z0 cI cO cT cR a na S)) args s 30 200 A) (xf, X, Y) 0 0 266 [(17, .int (nI t3)), (16, .int (nI t2)), (15, .int (nI t1)), (14, .int (nI t0)), (0, .ref (a 0)), (1, .ref b), (2, .int (nI i)), (3, .ref (ad 0)), (4, .ref (ad 1)), (5, .ref (ad 2)), (6, .ref (ad 3)), (7, .ref (ad 4)), (8, .ref (al 0)), (9, .ref (ad 5)), (10, .ref (ad 6)), (11, .ref (al 1)), (12, .ref (al 2)), (13, .ref (al 3))] [] := by
  obtain ⟨hl, ht, ht1, ht3, ht4, ht5, ht6⟩ := hT
  obtain ⟨⟨e0, e1, e3, eR⟩, eW⟩ := hA
  have eR0 := eR
  obtain ⟨g3, g8, gR, -⟩ := eR
  refine v_iload C dL_isDone_266 (j := 2) rfl ?_
  refine v_aload C dL_isDone_268 (j := 13) rfl ?_
  refine v_iconst C dL_isDone_270 (v := 3) (by decide) ?_
  refine v_iald C dL_isDone_271 1 ht1 N_g (by unfold vp_in; decide) ?_
  refine v_int (b := nI S.2.2.2.2.length) g3 ?_
  refine v_iconst C dL_isDone_272 (v := 1) (by decide) ?_
  refine v_iadd C dL_isDone_273 ?_
  rw [nI_1]
  refine v_irem C dL_isDone_274 (fun z => absurd (congrArg Int32.toNatClampNeg z) (by rw [nI_clamp (by omega)]; exact Nat.succ_ne_zero _)) ?_
  refine v_int (b := nI (t1 % (S.2.2.2.2.length + 1))) (pk_rem (by omega) (by omega) (by omega)) ?_
  have hrk : t1 % (S.2.2.2.2.length + 1) ≤ S.2.2.2.2.length := by have := Nat.mod_lt t1 (show 0 < S.2.2.2.2.length + 1 by omega); omega
  obtain ⟨rk, hrk9⟩ : ∃ rk, t1 % (S.2.2.2.2.length + 1) = rk := ⟨_, rfl⟩
  rw [hrk9] at hrk ⊢
  clear hrk9
  refine v_istore C dL_isDone_275 (by decide) (lv' := [(18, _), (17, _), (16, _), (15, _), (14, _), (0, _), (1, _), (2, _), (3, _), (4, _), (5, _), (6, _), (7, _), (8, _), (9, _), (10, _), (11, _), (12, _), (13, _)]) rfl ?_
  refine v_cut (pcj := 344) (lvj := [(18, .int (nI rk)), (17, .int (nI t3)), (16, .int (nI t2)), (15, .int (nI t1)), (14, .int (nI t0)), (0, .ref (a 0)), (1, .ref b), (2, .int (nI i)), (3, .ref (ad 0)), (4, .ref (ad 1)), (5, .ref (ad 2)), (6, .ref (ad 3)), (7, .ref (ad 4)), (8, .ref (al 0)), (9, .ref (ad 5)), (10, .ref (ad 6)), (11, .ref (al 1)), (12, .ref (al 2)), (13, .ref (al 3))]) (stj := []) (fun w => ∃ k, k ≤ 5 ∧ w = nI k) (fun w hw => ?_) (fun K => ?_)
  · skip
    obtain ⟨kk, hkk, rfl⟩ := hw
    refine v_istore C dL_isDone_344 (by decide) (lv' := [(19, _), (18, _), (17, _), (16, _), (15, _), (14, _), (0, _), (1, _), (2, _), (3, _), (4, _), (5, _), (6, _), (7, _), (8, _), (9, _), (10, _), (11, _), (12, _), (13, _)]) rfl ?_
    refine v_iload C dL_isDone_346 (j := 4) rfl ?_
    refine v_bipush C dL_isDone_348 (v := 9) (by decide) ?_
    refine v_idiv C dL_isDone_350 (by decide) ?_
    refine v_int (b := nI (t1 / 9)) (pk_div (d := 9) (by omega) (by decide) (by decide)) ?_
    refine v_bipush C dL_isDone_351 (v := 14) (by decide) ?_
    refine v_irem C dL_isDone_353 (by decide) ?_
    refine v_int (b := nI (t1 / 9 % 14)) (pk_rem (d := 14) (by omega) (by decide) (by decide)) ?_
    refine v_istore C dL_isDone_354 (by decide) (lv' := [(20, _), (19, _), (18, _), (17, _), (16, _), (15, _), (14, _), (0, _), (1, _), (2, _), (3, _), (4, _), (5, _), (6, _), (7, _), (8, _), (9, _), (10, _), (11, _), (12, _), (13, _)]) rfl ?_
    refine v_iload C dL_isDone_356 (j := 4) rfl ?_
    refine v_bipush C dL_isDone_358 (v := 9) (by decide) ?_
    refine v_idiv C dL_isDone_360 (by decide) ?_
    refine v_int (b := nI (t2 / 9)) (pk_div (d := 9) (by omega) (by decide) (by decide)) ?_
    refine v_iconst C dL_isDone_361 (v := 5) (by decide) ?_
    refine v_irem C dL_isDone_362 (by decide) ?_
    refine v_int (b := nI (t2 / 9 % 5)) (pk_rem (d := 5) (by omega) (by decide) (by decide)) ?_
    have hfk : t1 / 9 % 14 < 14 := Nat.mod_lt _ (by decide)
    have hok : t2 / 9 % 5 < 5 := Nat.mod_lt _ (by decide)
    obtain ⟨fk, hfk9⟩ : ∃ fk, t1 / 9 % 14 = fk := ⟨_, rfl⟩
    obtain ⟨ok, hok9⟩ : ∃ ok, t2 / 9 % 5 = ok := ⟨_, rfl⟩
    rw [hfk9] at hfk ⊢
    rw [hok9] at hok ⊢
    clear hfk9 hok9
    refine v_istore C dL_isDone_363 (by decide) (lv' := [(21, _), (20, _), (19, _), (18, _), (17, _), (16, _), (15, _), (14, _), (0, _), (1, _), (2, _), (3, _), (4, _), (5, _), (6, _), (7, _), (8, _), (9, _), (10, _), (11, _), (12, _), (13, _)]) rfl ?_
    refine v_iload C dL_isDone_365 (j := 4) rfl ?_
    refine v_ci (v_runS C (n_drawn (t := t3) (by omega)) (va_cwS 1 C.1.2.2.2.2 gL_isDone_L_drawn rfl rfl rfl (by decide +kernel) ⟨Nat.le_of_ble_eq_true rfl, Nat.le_of_ble_eq_true rfl⟩) rfl dL_isDone_367 (rest := []) (Nat.le_of_ble_eq_true rfl) rfl ⟨(by first | exact Nat.le_of_ble_eq_true rfl | (dsimp only [rmL, rm0]; omega)), (by first | exact Nat.le_of_ble_eq_true rfl | (dsimp only [rmL, rm0]; omega))⟩) (fun xx x' hx' => ?_)
    obtain ⟨rfl, hxx⟩ := hx'
    refine v_istore C dL_isDone_370 (by decide) (lv' := [(22, _), (21, _), (20, _), (19, _), (18, _), (17, _), (16, _), (15, _), (14, _), (0, _), (1, _), (2, _), (3, _), (4, _), (5, _), (6, _), (7, _), (8, _), (9, _), (10, _), (11, _), (12, _), (13, _)]) rfl ?_
    refine v_cut (pcj := 395) (lvj := [(22, .int xx), (21, .int (nI ok)), (20, .int (nI fk)), (19, .int (nI kk)), (18, .int (nI rk)), (17, .int (nI t3)), (16, .int (nI t2)), (15, .int (nI t1)), (14, .int (nI t0)), (0, .ref (a 0)), (1, .ref b), (2, .int (nI i)), (3, .ref (ad 0)), (4, .ref (ad 1)), (5, .ref (ad 2)), (6, .ref (ad 3)), (7, .ref (ad 4)), (8, .ref (al 0)), (9, .ref (ad 5)), (10, .ref (ad 6)), (11, .ref (al 1)), (12, .ref (al 2)), (13, .ref (al 3))]) (stj := []) (fun w => w = 10000 ∨ okOp w) (fun w hw => ?_) (fun K => ?_)
    · skip
      obtain ⟨yy, hyy9⟩ : ∃ yy, w = yy := ⟨_, rfl⟩
      rw [hyy9] at hw ⊢
      have hyy := hw
      clear hyy9 hw w
      have han := isAc_n hkk hfk hok hxx hyy
      refine v_istore C dL_isDone_395 (by decide) (lv' := [(23, _), (22, _), (21, _), (20, _), (19, _), (18, _), (17, _), (16, _), (15, _), (14, _), (0, _), (1, _), (2, _), (3, _), (4, _), (5, _), (6, _), (7, _), (8, _), (9, _), (10, _), (11, _), (12, _), (13, _)]) rfl ?_
      refine v_cut (pcj := 423) (lvj := [(23, .int yy), (22, .int xx), (21, .int (nI ok)), (20, .int (nI fk)), (19, .int (nI kk)), (18, .int (nI rk)), (17, .int (nI t3)), (16, .int (nI t2)), (15, .int (nI t1)), (14, .int (nI t0)), (0, .ref (a 0)), (1, .ref b), (2, .int (nI i)), (3, .ref (ad 0)), (4, .ref (ad 1)), (5, .ref (ad 2)), (6, .ref (ad 3)), (7, .ref (ad 4)), (8, .ref (al 0)), (9, .ref (ad 5)), (10, .ref (ad 6)), (11, .ref (al 1)), (12, .ref (al 2)), (13, .ref (al 3))]) (stj := []) (fun w => w = bI (isAc (nI kk, nI fk, nI ok, xx, yy))) (fun w hw => ?_) (fun K => ?_)
      · skip
        subst hw
        refine v_istore C dL_isDone_423 (by decide) (lv' := [(24, _), (23, _), (22, _), (21, _), (20, _), (19, _), (18, _), (17, _), (16, _), (15, _), (14, _), (0, _), (1, _), (2, _), (3, _), (4, _), (5, _), (6, _), (7, _), (8, _), (9, _), (10, _), (11, _), (12, _), (13, _)]) rfl ?_
        obtain ⟨due, hdue⟩ : ∃ due, dval [-300000, -200000, -100000] (opAct S (nI rk) (nI kk) (nI fk) (nI ok) xx yy) = due := ⟨_, rfl⟩
        refine v_cut (pcj := 479) (lvj := [(24, .int (bI (isAc (nI kk, nI fk, nI ok, xx, yy)))), (23, .int yy), (22, .int xx), (21, .int (nI ok)), (20, .int (nI fk)), (19, .int (nI kk)), (18, .int (nI rk)), (17, .int (nI t3)), (16, .int (nI t2)), (15, .int (nI t1)), (14, .int (nI t0)), (0, .ref (a 0)), (1, .ref b), (2, .int (nI i)), (3, .ref (ad 0)), (4, .ref (ad 1)), (5, .ref (ad 2)), (6, .ref (ad 3)), (7, .ref (ad 4)), (8, .ref (al 0)), (9, .ref (ad 5)), (10, .ref (ad 6)), (11, .ref (al 1)), (12, .ref (al 2)), (13, .ref (al 3))]) (stj := []) (fun w => w = due) (fun w hw => ?_) (fun K => ?_)
        · skip
          rw [hw]
          clear hw w
          refine v_istore C dL_isDone_479 (by decide) (lv' := [(25, _), (24, _), (23, _), (22, _), (21, _), (20, _), (19, _), (18, _), (17, _), (16, _), (15, _), (14, _), (0, _), (1, _), (2, _), (3, _), (4, _), (5, _), (6, _), (7, _), (8, _), (9, _), (10, _), (11, _), (12, _), (13, _)]) rfl ?_
          refine v_cutX (pcj := 553) (fun w : (Nat → Nat → Int32) × (Nat → Nat → Int64) => (xf, w.1, w.2)) (fun _ => [(25, .int due), (23, .int yy), (22, .int xx), (21, .int (nI ok)), (20, .int (nI fk)), (19, .int (nI kk)), (18, .int (nI rk)), (0, .ref (a 0)), (1, .ref b), (2, .int (nI i)), (3, .ref (ad 0)), (4, .ref (ad 1)), (5, .ref (ad 2)), (6, .ref (ad 3)), (7, .ref (ad 4)), (8, .ref (al 0)), (9, .ref (ad 5)), (10, .ref (ad 6)), (11, .ref (al 1)), (12, .ref (al 2)), (13, .ref (al 3))]) (fun _ => []) (fun w => nA w.1 w.2 (opAct S (nI rk) (nI kk) (nI fk) (nI ok) xx yy).2.2 ∧ okS (opAct S (nI rk) (nI kk) (nI fk) (nI ok) xx yy).2.2) (fun w hw => ?_) (fun K => ?_)
          · skip
            obtain ⟨X9, Y9⟩ := w
            obtain ⟨u1, u2⟩ := hw
            dsimp only at u1
            refine v_aload_n C dL_isDone_553 (j := 7) rfl rfl ?_
            refine v_iload C dL_isDone_554 (j := 6) rfl ?_
            refine v_iload C dL_isDone_556 (j := 5) rfl ?_
            refine v_iload C dL_isDone_558 (j := 4) rfl ?_
            refine v_iload C dL_isDone_560 (j := 3) rfl ?_
            refine v_iload C dL_isDone_562 (j := 2) rfl ?_
            refine v_iload C dL_isDone_564 (j := 1) rfl ?_
            refine l_cS C (D_acted hl ht ht1 ht5 hF (nI rk) (nI kk) (nI fk) (nI ok) xx yy) (vx_cwSW 7 C.1.2.2.2.2 gL_isDone_L_acted rfl rfl rfl (by decide +kernel) ⟨Nat.le_of_ble_eq_true rfl, Nat.le_of_ble_eq_true rfl⟩) rfl dL_isDone_566 (rest := []) (Nat.le_of_ble_eq_true rfl) rfl ⟨(by first | exact Nat.le_of_ble_eq_true rfl | (dsimp only [rmL, rm0]; omega)), (by first | exact Nat.le_of_ble_eq_true rfl | (dsimp only [rmL, rm0]; omega))⟩ (fun q x' hp => ?_)
            obtain ⟨x3, rfl, rfl, hF3⟩ := hp
            rw [hdue]
            refine v_iload C dL_isDone_569 (j := 0) rfl ?_
            refine v_icmp_ne C 578 dL_isDone_571 (by decide) (fun b1 => absurd b1 (fun q => q rfl)) (fun b1 => ?_)
            refine v_iconst C dL_isDone_574 (v := 1) (by decide) ?_
            refine v_goto C 579 dL_isDone_575 (by decide) ?_
            exact v_ireturn C dL_isDone_579 hr (rfl) (Nat.le_of_ble_eq_true rfl) (Nat.le_of_ble_eq_true rfl) (⟨x3, X9, Y9, _, rfl, rfl, hF3, u1, u2, Or.inl (opAct_n S _ _ _ _ _ _)⟩)
          · skip
            have hsame : ∀ v : Int32, v ≠ 0 → opAct S (nI rk) (nI kk) (nI fk) (nI ok) xx yy = (v, 0, S) → nA X Y (opAct S (nI rk) (nI kk) (nI fk) (nI ok) xx yy).2.2 ∧ okS (opAct S (nI rk) (nI kk) (nI fk) (nI ok) xx yy).2.2 := fun v _ hv => by rw [hv]; exact ⟨⟨⟨e0, e1, e3, eR0⟩, eW⟩, hk⟩
            by_cases hlt : rk < S.2.2.2.2.length
            · skip
              have hz : 0 ≤ nI rk ∧ nI rk < nI S.2.2.2.2.length := ⟨nI_pos' (by omega), (nI_ltI (by omega) (by omega)).mpr hlt⟩
              by_cases hc : isAc (nI kk, nI fk, nI ok, xx, yy) = true
              · skip
                by_cases h6 : (S.2.2.2.2.getD rk rl0).2.2.length < 6
                · skip
                  have hca := isAc_ok hc
                  have hcn := han
                  rw [hc] at hcn
                  have hcn := of_decide_eq_true hcn.symm
                  have hyo : okOp yy := by
                      rcases hyy with q | q
                      · exact absurd (by rw [q]; decide) hcn.2.2
                      · exact q
                  have hop : opAct S (nI rk) (nI kk) (nI fk) (nI ok) xx yy = (0, nI ((S.2.2.2.2.getD rk rl0).2.2.length + 1), (S.1, S.2.1, S.2.2.1, S.2.2.2.1, actR S.2.2.2.2 rk (nI kk, nI fk, nI ok, xx, yy))) := by unfold opAct; rw [if_pos hz, if_pos hc, nI_clamp (by omega), if_pos h6]
                  obtain ⟨n, hn9⟩ : ∃ n, (S.2.2.2.2.getD rk rl0).2.2.length = n := ⟨_, rfl⟩
                  obtain rfl : due = nI (n + 1) := by rw [← hdue, hop, ← hn9]; rfl
                  have q4 := (gR rk hlt).2.2.2.2.1
                  rw [hn9] at q4 h6
                  rw [hop] at K
                  refine v_iload C dL_isDone_481 (j := 0) rfl ?_
                  refine v_if_le C 553 dL_isDone_483 (by decide) (fun b1 => absurd b1 (fun q => by have := le_of (b := 0) q (by omega) (by decide); omega)) (fun b1 => ?_)
                  refine v_aload C dL_isDone_486 (j := 20) rfl ?_
                  refine v_bipush C dL_isDone_488 (v := 6) (by decide) ?_
                  refine v_iload C dL_isDone_490 (j := 7) rfl ?_
                  refine v_imul C dL_isDone_492 ?_
                  refine v_iload C dL_isDone_493 (j := 0) rfl ?_
                  refine v_iadd C dL_isDone_495 ?_
                  rw [nI_6]
                  refine v_iconst C dL_isDone_496 (v := 1) (by decide) ?_
                  refine v_isub C dL_isDone_497 ?_
                  refine v_int (b := nI (6 * rk + n)) (by rw [show 6 * rk + n = 6 * rk + (n + 1) - 1 by omega]; exact nI_subN (b := 1) (by omega)) ?_
                  refine v_iload C dL_isDone_498 (j := 6) rfl ?_
                  refine v_i2l C dL_isDone_500 ?_
                  refine v_ldc2 C dL_isDone_501 (v := (5)) wwbL_isDone_k99 ?_
                  refine v_iload C dL_isDone_504 (j := 5) rfl ?_
                  refine v_i2l C dL_isDone_506 ?_
                  refine v_ldc2 C dL_isDone_507 (v := (13)) wwbL_isDone_k159 ?_
                  refine v_iload C dL_isDone_510 (j := 4) rfl ?_
                  refine v_i2l C dL_isDone_512 ?_
                  refine v_ldc2 C dL_isDone_513 (v := (5)) wwbL_isDone_k99 ?_
                  refine v_iload C dL_isDone_516 (j := 3) rfl ?_
                  refine v_bipush C dL_isDone_518 (v := 30) (by decide) ?_
                  refine v_iadd C dL_isDone_520 ?_
                  refine v_i2l C dL_isDone_521 ?_
                  refine v_ldc2 C dL_isDone_522 (v := (10100)) wwbL_isDone_k88 ?_
                  refine v_iload C dL_isDone_525 (j := 2) rfl ?_
                  refine v_bipush C dL_isDone_527 (v := 30) (by decide) ?_
                  refine v_iadd C dL_isDone_529 ?_
                  refine v_i2l C dL_isDone_530 ?_
                  refine v_lmul C dL_isDone_531 ?_
                  refine v_ladd C dL_isDone_532 ?_
                  refine v_lmul C dL_isDone_533 ?_
                  refine v_ladd C dL_isDone_534 ?_
                  refine v_lmul C dL_isDone_535 ?_
                  refine v_ladd C dL_isDone_536 ?_
                  refine v_lmul C dL_isDone_537 ?_
                  refine v_ladd C dL_isDone_538 ?_
                  refine v_long (b := lN (pkA (nI kk, nI fk, nI ok, xx, yy))) (pk_row hcn.1 hcn.2.1 hok hxx hyo) ?_
                  refine v_last C dL_isDone_539 6 ht6 (vp_in_nI (by show 6 * rk + n < 48; omega) (by decide)) (N_sa _) ?_
                  rw [nI_clamp (by omega)]
                  obtain ⟨Y3, hY3, yn, yo, yc⟩ : ∃ Y3, Y3 = va_up Y 0 (vp_updL (Y 0) (6 * rk + n) (lN (pkA (nI kk, nI fk, nI ok, xx, yy)))) ∧ Y3 0 (6 * rk + n) = lN (pkA (nI kk, nI fk, nI ok, xx, yy)) ∧ (∀ j, j ≠ 6 * rk + n → Y3 0 j = Y 0 j) ∧ ∀ j, j ≠ 0 → Y3 j = Y j := ⟨_, rfl, by rw [va_up_same]; unfold vp_updL; rw [if_pos rfl], fun j hj => by rw [va_up_same]; unfold vp_updL; rw [if_neg hj], fun j hj => va_up_other _ _ _ hj⟩
                  rw [← hY3]
                  clear hY3
                  refine v_aload C dL_isDone_540 (j := 19) rfl ?_
                  refine v_iconst C dL_isDone_542 (v := 5) (by decide) ?_
                  refine v_iload C dL_isDone_543 (j := 7) rfl ?_
                  refine v_imul C dL_isDone_545 ?_
                  refine v_iconst C dL_isDone_546 (v := 4) (by decide) ?_
                  refine v_iadd C dL_isDone_547 ?_
                  refine v_int (b := nI (5 * rk + 4)) (q5 rk 4) ?_
                  refine v_dup2 C dL_isDone_548 rfl rfl ?_
                  refine v_iald C dL_isDone_549 1 ht1 N_q (vp_in_nI (by show 5 * rk + 4 < 40; omega) (by decide)) ?_
                  refine v_int (b := nI n) (by rw [nI_clamp (by omega)]; exact q4) ?_
                  refine v_iconst C dL_isDone_550 (v := 1) (by decide) ?_
                  refine v_iadd C dL_isDone_551 ?_
                  rw [nI_1]
                  refine v_iast C dL_isDone_552 1 ht1 (vp_in_nI (by show 5 * rk + 4 < 40; omega) (by decide)) (N_sq _) ?_
                  rw [nI_clamp (by omega)]
                  obtain ⟨X3, hX3, n4, no, nc⟩ : ∃ X3, X3 = va_up X 4 (upd (X 4) (5 * rk + 4) (nI (n + 1))) ∧ X3 4 (5 * rk + 4) = nI (n + 1) ∧ (∀ j, j ≠ 5 * rk + 4 → X3 4 j = X 4 j) ∧ ich [4] X X3 := ⟨_, rfl, by rw [va_up_same]; unfold upd; rw [if_pos rfl], fun j hj => by rw [va_up_same]; unfold upd; rw [if_neg hj], ich_u (by decide) _⟩
                  rw [← hX3]
                  clear hX3
                  have c5 := nc 5 (by decide)
                  refine v_sub [0, 2, 3, 4, 5, 6, 7, 12, 13, 14, 15, 16, 17, 18, 19, 20, 21, 22, 23, 24, 25] rfl ?_
                  refine K (X3, Y3) ⟨⟨⟨(congrFun c5 0).trans e0, (congrFun c5 1).trans e1, e3.ch nc (by decide), nRu_act eR0 hlt (by rw [hn9]; exact h6) hca (congrFun c5 3) (by rw [hn9]; exact n4) no (by rw [hn9]; exact yn) (by rw [hn9]; exact yo)⟩, eW.1.ch nc (by decide), eW.2.1.ch (congrFun c5 4) (nc 6 (by decide)) (yc 1 (by decide)) (yc 2 (by decide)), eW.2.2.1.ch (congrFun c5 5) (yc 3 (by decide)), (congrFun c5 2).trans eW.2.2.2⟩, hk⟩
                · skip
                  have hop : opAct S (nI rk) (nI kk) (nI fk) (nI ok) xx yy = (3, 0, S) := by unfold opAct; rw [if_pos hz, if_pos hc, nI_clamp (by omega), if_neg h6]
                  obtain rfl : due = -100000 := by rw [← hdue, hop]; rfl
                  refine v_iload C dL_isDone_481 (j := 0) rfl ?_
                  refine v_if_le C 553 dL_isDone_483 (by decide) (fun b1 => ?_) (fun b1 => absurd b1 (fun q => q (by decide)))
                  refine v_sub [0, 2, 3, 4, 5, 6, 7, 12, 13, 14, 15, 16, 17, 18, 19, 20, 21, 22, 23, 24, 25] rfl ?_
                  exact K (X, Y) (hsame 3 (by decide) hop)
              · skip
                have hop : opAct S (nI rk) (nI kk) (nI fk) (nI ok) xx yy = (2, 0, S) := by unfold opAct; rw [if_pos hz, if_neg hc]
                obtain rfl : due = -200000 := by rw [← hdue, hop]; rfl
                refine v_iload C dL_isDone_481 (j := 0) rfl ?_
                refine v_if_le C 553 dL_isDone_483 (by decide) (fun b1 => ?_) (fun b1 => absurd b1 (fun q => q (by decide)))
                refine v_sub [0, 2, 3, 4, 5, 6, 7, 12, 13, 14, 15, 16, 17, 18, 19, 20, 21, 22, 23, 24, 25] rfl ?_
                exact K (X, Y) (hsame 2 (by decide) hop)
            · skip
              have hz : ¬ (0 ≤ nI rk ∧ nI rk < nI S.2.2.2.2.length) := fun z => hlt ((nI_ltI (by omega) (by omega)).mp z.2)
              have hop : opAct S (nI rk) (nI kk) (nI fk) (nI ok) xx yy = (1, 0, S) := by unfold opAct; rw [if_neg hz]
              obtain rfl : due = -300000 := by rw [← hdue, hop]; rfl
              refine v_iload C dL_isDone_481 (j := 0) rfl ?_
              refine v_if_le C 553 dL_isDone_483 (by decide) (fun b1 => ?_) (fun b1 => absurd b1 (fun q => q (by decide)))
              refine v_sub [0, 2, 3, 4, 5, 6, 7, 12, 13, 14, 15, 16, 17, 18, 19, 20, 21, 22, 23, 24, 25] rfl ?_
              exact K (X, Y) (hsame 1 (by decide) hop)
        · skip
          refine v_iload C dL_isDone_425 (j := 6) rfl ?_
          refine v_aload C dL_isDone_427 (j := 20) rfl ?_
          refine v_iconst C dL_isDone_429 (v := 3) (by decide) ?_
          refine v_iald C dL_isDone_430 1 ht1 N_g (by unfold vp_in; decide) ?_
          refine v_int (b := nI S.2.2.2.2.length) g3 ?_
          refine v_icmp_ne C 439 dL_isDone_431 (by decide) (fun c1 => ?_) (fun c1 => ?_)
          · skip
            have hlt : rk < S.2.2.2.2.length := by
                have : rk ≠ S.2.2.2.2.length := fun z => c1 (by rw [z])
                omega
            have hz : 0 ≤ nI rk ∧ nI rk < nI S.2.2.2.2.length := ⟨nI_pos' (by omega), (nI_ltI (by omega) (by omega)).mpr hlt⟩
            have q4 := (gR rk hlt).2.2.2.2.1
            have q6 := (gR rk hlt).2.2.2.2.2.1
            refine v_iload C dL_isDone_439 (j := 0) rfl ?_
            refine v_if_ne C 449 dL_isDone_441 (by decide) (fun c2 => ?_) (fun c2 => ?_)
            · skip
              refine v_aload C dL_isDone_449 (j := 18) rfl ?_
              refine v_iconst C dL_isDone_451 (v := 5) (by decide) ?_
              refine v_iload C dL_isDone_452 (j := 6) rfl ?_
              refine v_imul C dL_isDone_454 ?_
              refine v_iconst C dL_isDone_455 (v := 4) (by decide) ?_
              refine v_iadd C dL_isDone_456 ?_
              refine v_int (b := nI (5 * rk + 4)) (q5 rk 4) ?_
              refine v_iald C dL_isDone_457 1 ht1 N_q (vp_in_nI (by show 5 * rk + 4 < 40; omega) (by decide)) ?_
              refine v_int (b := nI (S.2.2.2.2.getD rk rl0).2.2.length) (by rw [nI_clamp (by omega)]; exact q4) ?_
              refine v_bipush C dL_isDone_458 (v := 6) (by decide) ?_
              refine v_icmp_ne C 468 dL_isDone_460 (by decide) (fun c3 => ?_) (fun c3 => ?_)
              · skip
                have c4 : (S.2.2.2.2.getD rk rl0).2.2.length ≠ 6 := fun z => c3 (by rw [z]; rfl)
                refine v_aload C dL_isDone_468 (j := 18) rfl ?_
                refine v_iconst C dL_isDone_470 (v := 5) (by decide) ?_
                refine v_iload C dL_isDone_471 (j := 6) rfl ?_
                refine v_imul C dL_isDone_473 ?_
                refine v_iconst C dL_isDone_474 (v := 4) (by decide) ?_
                refine v_iadd C dL_isDone_475 ?_
                refine v_int (b := nI (5 * rk + 4)) (q5 rk 4) ?_
                refine v_iald C dL_isDone_476 1 ht1 N_q (vp_in_nI (by show 5 * rk + 4 < 40; omega) (by decide)) ?_
                refine v_int (b := nI (S.2.2.2.2.getD rk rl0).2.2.length) (by rw [nI_clamp (by omega)]; exact q4) ?_
                refine v_iconst C dL_isDone_477 (v := 1) (by decide) ?_
                refine v_iadd C dL_isDone_478 ?_
                rw [nI_1]
                exact K _ (by rw [← hdue]; unfold opAct; rw [if_pos hz, if_pos (bI_1 c2), nI_clamp (by omega), if_pos (by omega)]; rfl)
              · skip
                have c4 : (S.2.2.2.2.getD rk rl0).2.2.length = 6 := by have := congrArg Int32.toNatClampNeg c3; rw [nI_clamp (by omega)] at this; exact this
                refine v_ldc C dL_isDone_463 (v := (-100000)) wwbL_isDone_k53 ?_
                refine v_goto C 479 dL_isDone_465 (by decide) ?_
                exact K _ (by rw [← hdue]; unfold opAct; rw [if_pos hz, if_pos (bI_1 c2), nI_clamp (by omega), if_neg (by omega)]; rfl)
            · skip
              refine v_ldc C dL_isDone_444 (v := (-200000)) wwbL_isDone_k50 ?_
              refine v_goto C 479 dL_isDone_446 (by decide) ?_
              exact K _ (by rw [← hdue]; unfold opAct; rw [if_pos hz, if_neg (by rw [bI_0 c2]; decide)]; rfl)
          · skip
            have heq : rk = S.2.2.2.2.length := by have := congrArg Int32.toNatClampNeg c1; rw [nI_clamp (by omega), nI_clamp (by omega)] at this; exact this
            refine v_ldc C dL_isDone_434 (v := (-300000)) wwbL_isDone_k47 ?_
            refine v_goto C 479 dL_isDone_436 (by decide) ?_
            exact K _ (by rw [← hdue]; unfold opAct; rw [if_neg (fun z => by have := (nI_ltI (a := rk) (b := S.2.2.2.2.length) (by omega) (by omega)).mp z.2; omega)]; rfl)
      · skip
        refine v_cut0 (pcj := 422) (lvj := [(23, .int yy), (22, .int xx), (21, .int (nI ok)), (20, .int (nI fk)), (19, .int (nI kk)), (18, .int (nI rk)), (17, .int (nI t3)), (16, .int (nI t2)), (15, .int (nI t1)), (14, .int (nI t0)), (0, .ref (a 0)), (1, .ref b), (2, .int (nI i)), (3, .ref (ad 0)), (4, .ref (ad 1)), (5, .ref (ad 2)), (6, .ref (ad 3)), (7, .ref (ad 4)), (8, .ref (al 0)), (9, .ref (ad 5)), (10, .ref (ad 6)), (11, .ref (al 1)), (12, .ref (al 2)), (13, .ref (al 3))]) (stj := []) (isAc (nI kk, nI fk, nI ok, xx, yy) = false) (fun hw => ?_) (fun K2 => ?_)
        · skip
          refine v_iconst C dL_isDone_422 (v := 0) (by decide) ?_
          exact K _ (bI_f hw)
        · skip
          refine v_iload C dL_isDone_397 (j := 4) rfl ?_
          refine v_iconst C dL_isDone_399 (v := 5) (by decide) ?_
          refine v_icmp_ge C 422 dL_isDone_400 (by decide) (fun c1 => ?_) (fun c1 => ?_)
          · skip
            exact K2 (by rw [han]; exact decide_eq_false (by have := le_of (a := 5) c1 (by decide) (by omega); omega))
          · skip
            have d1 := lt_ofn (a := 5) c1 (by decide) (by omega)
            refine v_iload C dL_isDone_403 (j := 3) rfl ?_
            refine v_bipush C dL_isDone_405 (v := 13) (by decide) ?_
            refine v_icmp_ge C 422 dL_isDone_407 (by decide) (fun c2 => ?_) (fun c2 => ?_)
            · skip
              exact K2 (by rw [han]; exact decide_eq_false (by have := le_of (a := 13) c2 (by decide) (by omega); omega))
            · skip
              have d2 := lt_ofn (a := 13) c2 (by decide) (by omega)
              refine v_iload C dL_isDone_410 (j := 0) rfl ?_
              refine v_sipush C dL_isDone_412 (v := 10000) (by decide) ?_
              refine v_icmp_ge C 422 dL_isDone_415 (by decide) (fun c3 => ?_) (fun c3 => ?_)
              · skip
                exact K2 (by rw [han]; exact decide_eq_false (fun z => z.2.2 c3))
              · skip
                refine v_iconst C dL_isDone_418 (v := 1) (by decide) ?_
                refine v_goto C 423 dL_isDone_419 (by decide) ?_
                exact K _ (bI_t (by rw [han]; exact decide_eq_true ⟨d1, d2, c3⟩))
    · skip
      refine v_iload C dL_isDone_372 (j := 6) rfl ?_
      refine v_bipush C dL_isDone_374 (v := 50) (by decide) ?_
      refine v_irem C dL_isDone_376 (by decide) ?_
      refine v_iconst C dL_isDone_377 (v := 1) (by decide) ?_
      refine v_icmp_ne C 387 dL_isDone_378 (by decide) (fun c1 => ?_) (fun c1 => ?_)
      · skip
        refine v_iload C dL_isDone_387 (j := 6) rfl ?_
        refine v_iload C dL_isDone_389 (j := 7) rfl ?_
        refine v_iadd C dL_isDone_391 ?_
        rw [nI_add]
        refine v_ci (v_runS C (n_drawn (t := t2 + t1) (by omega)) (va_cwS 1 C.1.2.2.2.2 gL_isDone_L_drawn rfl rfl rfl (by decide +kernel) ⟨Nat.le_of_ble_eq_true rfl, Nat.le_of_ble_eq_true rfl⟩) rfl dL_isDone_392 (rest := []) (Nat.le_of_ble_eq_true rfl) rfl ⟨(by first | exact Nat.le_of_ble_eq_true rfl | (dsimp only [rmL, rm0]; omega)), (by first | exact Nat.le_of_ble_eq_true rfl | (dsimp only [rmL, rm0]; omega))⟩) (fun zz x' hx' => ?_)
        obtain ⟨rfl, hzz⟩ := hx'
        exact K _ (Or.inr hzz)
      · skip
        refine v_sipush C dL_isDone_381 (v := 10000) (by decide) ?_
        refine v_goto C 395 dL_isDone_384 (by decide) ?_
        exact K _ (Or.inl rfl)
  · skip
    refine v_iload C dL_isDone_277 (j := 2) rfl ?_
    refine v_bipush C dL_isDone_279 (v := 40) (by decide) ?_
    refine v_irem C dL_isDone_281 (by decide) ?_
    refine v_if_ne C 289 dL_isDone_282 (by decide) (fun c1 => ?_) (fun c1 => ?_)
    · skip
      refine v_iload C dL_isDone_289 (j := 2) rfl ?_
      refine v_bipush C dL_isDone_291 (v := 9) (by decide) ?_
      refine v_irem C dL_isDone_293 (by decide) ?_
      refine v_iconst C dL_isDone_294 (v := 3) (by decide) ?_
      refine v_icmp_ge C 302 dL_isDone_295 (by decide) (fun c2 => ?_) (fun c2 => ?_)
      · skip
        refine v_iload C dL_isDone_302 (j := 2) rfl ?_
        refine v_bipush C dL_isDone_304 (v := 9) (by decide) ?_
        refine v_irem C dL_isDone_306 (by decide) ?_
        refine v_iconst C dL_isDone_307 (v := 5) (by decide) ?_
        refine v_icmp_ge C 315 dL_isDone_308 (by decide) (fun c3 => ?_) (fun c3 => ?_)
        · skip
          refine v_iload C dL_isDone_315 (j := 2) rfl ?_
          refine v_bipush C dL_isDone_317 (v := 9) (by decide) ?_
          refine v_irem C dL_isDone_319 (by decide) ?_
          refine v_bipush C dL_isDone_320 (v := 7) (by decide) ?_
          refine v_icmp_ge C 329 dL_isDone_322 (by decide) (fun c4 => ?_) (fun c4 => ?_)
          · skip
            refine v_iload C dL_isDone_329 (j := 2) rfl ?_
            refine v_bipush C dL_isDone_331 (v := 9) (by decide) ?_
            refine v_irem C dL_isDone_333 (by decide) ?_
            refine v_bipush C dL_isDone_334 (v := 7) (by decide) ?_
            refine v_icmp_ne C 343 dL_isDone_336 (by decide) (fun c5 => ?_) (fun c5 => ?_)
            · skip
              refine v_iconst C dL_isDone_343 (v := 4) (by decide) ?_
              exact K _ ⟨4, by decide, rfl⟩
            · skip
              refine v_iconst C dL_isDone_339 (v := 3) (by decide) ?_
              refine v_goto C 344 dL_isDone_340 (by decide) ?_
              exact K _ ⟨3, by decide, rfl⟩
          · skip
            refine v_iconst C dL_isDone_325 (v := 2) (by decide) ?_
            refine v_goto C 344 dL_isDone_326 (by decide) ?_
            exact K _ ⟨2, by decide, rfl⟩
        · skip
          refine v_iconst C dL_isDone_311 (v := 1) (by decide) ?_
          refine v_goto C 344 dL_isDone_312 (by decide) ?_
          exact K _ ⟨1, by decide, rfl⟩
      · skip
        refine v_iconst C dL_isDone_298 (v := 0) (by decide) ?_
        refine v_goto C 344 dL_isDone_299 (by decide) ?_
        exact K _ ⟨0, by decide, rfl⟩
    · skip
      refine v_iconst C dL_isDone_285 (v := 5) (by decide) ?_
      refine v_goto C 344 dL_isDone_286 (by decide) ?_
      exact K _ ⟨5, by decide, rfl⟩
end DA
