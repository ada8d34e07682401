/-! ===== the law: one thing done: a rule ===== -/
theorem wwL_isDone_k53 : Cond.constant RL 53 (-100000) ∈ wsL_isDone := by decide +kernel
theorem wwL_isDone_k50 : Cond.constant RL 50 (-200000) ∈ wsL_isDone := by decide +kernel
def dnP (z0 : Nat) (cI cO cT cR : ClassId) (a na : Nat → Nat) (S : aS) (q : Int32) (x : lS) : Prop := ∃ x' X' Y' S', x = (x', X', Y') ∧ q = 1 ∧ fI z0 cI cO cT cR a na x' S' ∧ nA X' Y' S' ∧ okS S' ∧ (S'.2.1 = S.2.1 ∨ S'.2.1 = S.2.1 + 1)
theorem isFd_n {k : Nat} (h : k < 2 ^ 31) : isFd (nI k) = decide (k ≤ 12) := by unfold isFd; rw [decide_eq_true (nI_pos' h), Bool.true_and]; exact decide_eq_decide.mpr (nI_leI (b := 12) h (by decide))
theorem isNb_n {k : Nat} (h : k < 2 ^ 31) : isNb (nI k) = decide (k ≤ 9999) := by unfold isNb; rw [decide_eq_true (nI_pos' h), Bool.true_and]; exact decide_eq_decide.mpr (nI_leI (b := 9999) h (by decide))
theorem isPat_n {pk fk sk : Nat} (hp : pk ≤ 4) (hf : (pk = 3 ∧ fk < 5) ∨ (pk ≠ 3 ∧ fk < 13) ∨ fk = 10000) (hs : (pk = 2 ∧ sk < 14) ∨ (pk ≠ 2 ∧ sk < 6)) : isPat (nI pk) (nI fk) (nI sk) = decide (pk < 4 ∧ (pk = 0 ∨ (fk < 10000 ∧ (pk ≠ 2 ∨ sk < 13)))) := by
  rcases (show pk = 0 ∨ pk = 1 ∨ pk = 2 ∨ pk = 3 ∨ pk = 4 by omega) with rfl | rfl | rfl | rfl | rfl
  · unfold isPat
    rw [if_pos (by decide)]
    exact (decide_eq_true (by omega)).symm
  · unfold isPat
    rw [if_neg (by decide), if_pos (by decide), isFd_n (by omega), isNb_n (by omega), Bool.eq_iff_iff, Bool.and_eq_true, decide_eq_true_eq, decide_eq_true_eq, decide_eq_true_eq]
    omega
  · unfold isPat
    rw [if_neg (by decide), if_neg (by decide), if_pos (by decide), isFd_n (by omega), isFd_n (by omega), Bool.eq_iff_iff, Bool.and_eq_true, decide_eq_true_eq, decide_eq_true_eq, decide_eq_true_eq]
    omega
  · unfold isPat
    rw [if_neg (by decide), if_neg (by decide), if_neg (by decide), if_pos (by decide), isNb_n (by omega), isNb_n (by omega), Bool.eq_iff_iff, Bool.and_eq_true, decide_eq_true_eq, decide_eq_true_eq, decide_eq_true_eq]
    omega
  · unfold isPat
    rw [if_neg (by decide), if_neg (by decide), if_neg (by decide), if_neg (by decide)]
    exact (decide_eq_false (by omega)).symm
theorem opRule_n (S : aS) (pat a b : Int32) : (opRule S pat a b).2.2.2.1 = S.2.1 := by
  unfold opRule
  split
  · split <;> rfl
  · rfl
section DN
variable {p : Program} {l : Launch} {e : Env} {s : State} {m : MethodId} {args : Array Value} {below : List Frame} {meth : Method} {c : Code}
variable {D : va_G} {tys : List (ClassId × FieldType)} {z0 : Nat} {A : Nat → Prop} {cC cI cJ cO cT cR : ClassId} {b i : Nat} {ad al a na : Nat → Nat} {xf : fS} {X : Nat → Nat → Int32} {Y : Nat → Nat → Int64} {S : aS} {t0 t1 t2 t3 : Nat}
set_option maxRecDepth 100000 in
set_option maxHeartbeats 16000000 in
theorem done_rule (hT : lwT l tys cC cI cR cT cO cJ) (C : cx p s m args meth c cL_isDone 26 wsL_isDone RL D tys z0 A) (hr : meth.sig.returnType = some .boolean) (h1 : t1 < 6000) (h2 : t2 < 7000) (h3 : t3 < 8000) (hF : fI z0 cI cO cT cR a na xf S) (hA : nA X Y S) (hk : okS S) (hn : ∃ N, N + 1 < 1000000000 ∧ S.2.1 = nI N) : vv (picL D cC cI cJ ad al A) A 26 p l e ({ frames := 12, cells := 30, slots := 200, locals := 400 } : Room) s m args below meth c (MQ below (qI (picL D cC cI cJ ad al A) A (dnP z0 cI cO cT cR a na S)) args s 30 200 A) (xf, X, Y) 0 0 51 [(17, .int (nI t3)), (16, .int (nI t2)), (15, .int (nI t1)), (14, .int (nI t0)), (0, .ref (a 0)), (1, .ref b), (2, .int (nI i)), (3, .ref (ad 0)), (4, .ref (ad 1)), (5, .ref (ad 2)), (6, .ref (ad 3)), (7, .ref (ad 4)), (8, .ref (al 0)), (9, .ref (ad 5)), (10, .ref (ad 6)), (11, .ref (al 1)), (12, .ref (al 2)), (13, .ref (al 3))] [] := by
  obtain ⟨hl, ht, ht1, ht3, ht4, ht5, ht6⟩ := hT
  refine v_cut (pcj := 67) (lvj := [(17, .int (nI t3)), (16, .int (nI t2)), (15, .int (nI t1)), (14, .int (nI t0)), (0, .ref (a 0)), (1, .ref b), (2, .int (nI i)), (3, .ref (ad 0)), (4, .ref (ad 1)), (5, .ref (ad 2)), (6, .ref (ad 3)), (7, .ref (ad 4)), (8, .ref (al 0)), (9, .ref (ad 5)), (10, .ref (ad 6)), (11, .ref (al 1)), (12, .ref (al 2)), (13, .ref (al 3))]) (stj := []) (fun w => ∃ k, k ≤ 4 ∧ w = nI k) (fun w hw => ?_) (fun K => ?_)
  · skip
    obtain ⟨pk, hpk, rfl⟩ := hw
    refine v_istore C dL_isDone_67 (by decide) (lv' := [(18, _), (17, _), (16, _), (15, _), (14, _), (0, _), (1, _), (2, _), (3, _), (4, _), (5, _), (6, _), (7, _), (8, _), (9, _), (10, _), (11, _), (12, _), (13, _)]) rfl ?_
    refine v_cut (pcj := 101) (lvj := [(18, .int (nI pk)), (17, .int (nI t3)), (16, .int (nI t2)), (15, .int (nI t1)), (14, .int (nI t0)), (0, .ref (a 0)), (1, .ref b), (2, .int (nI i)), (3, .ref (ad 0)), (4, .ref (ad 1)), (5, .ref (ad 2)), (6, .ref (ad 3)), (7, .ref (ad 4)), (8, .ref (al 0)), (9, .ref (ad 5)), (10, .ref (ad 6)), (11, .ref (al 1)), (12, .ref (al 2)), (13, .ref (al 3))]) (stj := []) (fun w => ∃ k, w = nI k ∧ ((pk = 3 ∧ k < 5) ∨ (pk ≠ 3 ∧ k < 13) ∨ k = 10000)) (fun w hw => ?_) (fun K => ?_)
    · skip
      obtain ⟨fk, rfl, hfk⟩ := hw
      refine v_istore C dL_isDone_101 (by decide) (lv' := [(19, _), (18, _), (17, _), (16, _), (15, _), (14, _), (0, _), (1, _), (2, _), (3, _), (4, _), (5, _), (6, _), (7, _), (8, _), (9, _), (10, _), (11, _), (12, _), (13, _)]) rfl ?_
      refine v_cut (pcj := 122) (lvj := [(19, .int (nI fk)), (18, .int (nI pk)), (17, .int (nI t3)), (16, .int (nI t2)), (15, .int (nI t1)), (14, .int (nI t0)), (0, .ref (a 0)), (1, .ref b), (2, .int (nI i)), (3, .ref (ad 0)), (4, .ref (ad 1)), (5, .ref (ad 2)), (6, .ref (ad 3)), (7, .ref (ad 4)), (8, .ref (al 0)), (9, .ref (ad 5)), (10, .ref (ad 6)), (11, .ref (al 1)), (12, .ref (al 2)), (13, .ref (al 3))]) (stj := []) (fun w => ∃ k, w = nI k ∧ ((pk = 2 ∧ k < 14) ∨ (pk ≠ 2 ∧ k < 6))) (fun w hw => ?_) (fun K => ?_)
      · skip
        obtain ⟨sk, rfl, hsk⟩ := hw
        have hpn := isPat_n hpk hfk hsk
        refine v_istore C dL_isDone_122 (by decide) (lv' := [(20, _), (19, _), (18, _), (17, _), (16, _), (15, _), (14, _), (0, _), (1, _), (2, _), (3, _), (4, _), (5, _), (6, _), (7, _), (8, _), (9, _), (10, _), (11, _), (12, _), (13, _)]) rfl ?_
        refine v_cut (pcj := 161) (lvj := [(20, .int (nI sk)), (19, .int (nI fk)), (18, .int (nI pk)), (17, .int (nI t3)), (16, .int (nI t2)), (15, .int (nI t1)), (14, .int (nI t0)), (0, .ref (a 0)), (1, .ref b), (2, .int (nI i)), (3, .ref (ad 0)), (4, .ref (ad 1)), (5, .ref (ad 2)), (6, .ref (ad 3)), (7, .ref (ad 4)), (8, .ref (al 0)), (9, .ref (ad 5)), (10, .ref (ad 6)), (11, .ref (al 1)), (12, .ref (al 2)), (13, .ref (al 3))]) (stj := []) (fun w => w = bI (isPat (nI pk) (nI fk) (nI sk))) (fun w hw => ?_) (fun K => ?_)
        · skip
          subst hw
          refine v_istore C dL_isDone_161 (by decide) (lv' := [(21, _), (20, _), (19, _), (18, _), (17, _), (16, _), (15, _), (14, _), (0, _), (1, _), (2, _), (3, _), (4, _), (5, _), (6, _), (7, _), (8, _), (9, _), (10, _), (11, _), (12, _), (13, _)]) rfl ?_
          obtain ⟨⟨e0, e1, e3, eR⟩, eW⟩ := hA
          have eR0 := eR
          obtain ⟨g3, g8, -, -⟩ := eR
          obtain ⟨due, hdue⟩ : ∃ due, dval [-200000, -100000] (opRule S (nI pk) (nI fk) (nI sk)) = due := ⟨_, rfl⟩
          refine v_cut (pcj := 191) (lvj := [(21, .int (bI (isPat (nI pk) (nI fk) (nI sk)))), (20, .int (nI sk)), (19, .int (nI fk)), (18, .int (nI pk)), (17, .int (nI t3)), (16, .int (nI t2)), (15, .int (nI t1)), (14, .int (nI t0)), (0, .ref (a 0)), (1, .ref b), (2, .int (nI i)), (3, .ref (ad 0)), (4, .ref (ad 1)), (5, .ref (ad 2)), (6, .ref (ad 3)), (7, .ref (ad 4)), (8, .ref (al 0)), (9, .ref (ad 5)), (10, .ref (ad 6)), (11, .ref (al 1)), (12, .ref (al 2)), (13, .ref (al 3))]) (stj := []) (fun w => w = due) (fun w hw => ?_) (fun K => ?_)
          · skip
            rw [hw]
            clear hw w
            refine v_istore C dL_isDone_191 (by decide) (lv' := [(22, _), (21, _), (20, _), (19, _), (18, _), (17, _), (16, _), (15, _), (14, _), (0, _), (1, _), (2, _), (3, _), (4, _), (5, _), (6, _), (7, _), (8, _), (9, _), (10, _), (11, _), (12, _), (13, _)]) rfl ?_
            refine v_cutX (pcj := 237) (fun w : (Nat → Nat → Int32) => (xf, w, Y)) (fun _ => [(22, .int due), (20, .int (nI sk)), (19, .int (nI fk)), (18, .int (nI pk)), (0, .ref (a 0)), (1, .ref b), (2, .int (nI i)), (3, .ref (ad 0)), (4, .ref (ad 1)), (5, .ref (ad 2)), (6, .ref (ad 3)), (7, .ref (ad 4)), (8, .ref (al 0)), (9, .ref (ad 5)), (10, .ref (ad 6)), (11, .ref (al 1)), (12, .ref (al 2)), (13, .ref (al 3))]) (fun _ => []) (fun w => nA w Y (opRule S (nI pk) (nI fk) (nI sk)).2.2 ∧ okS (opRule S (nI pk) (nI fk) (nI sk)).2.2) (fun w hw => ?_) (fun K => ?_)
            · skip
              obtain ⟨u1, u2⟩ := hw
              refine v_aload_n C dL_isDone_237 (j := 4) rfl rfl ?_
              refine v_iconst C dL_isDone_238 (v := 0) (by decide) ?_
              refine v_iload C dL_isDone_239 (j := 3) rfl ?_
              refine v_iload C dL_isDone_241 (j := 2) rfl ?_
              refine v_iload C dL_isDone_243 (j := 1) rfl ?_
              refine l_cS C (D_rule hl ht5 hF (nI pk) (nI fk) (nI sk)) (vx_cwSW 5 C.1.2.2.2.2 gL_isDone_L_does rfl rfl rfl (by decide +kernel) ⟨Nat.le_of_ble_eq_true rfl, Nat.le_of_ble_eq_true rfl⟩) rfl dL_isDone_245 (rest := []) (Nat.le_of_ble_eq_true rfl) rfl ⟨(by first | exact Nat.le_of_ble_eq_true rfl | (dsimp only [rmL, rm0]; omega)), (by first | exact Nat.le_of_ble_eq_true rfl | (dsimp only [rmL, rm0]; omega))⟩ (fun q x' hp => ?_)
              obtain ⟨x3, rfl, rfl, hF3⟩ := hp
              rw [hdue]
              refine v_iload C dL_isDone_248 (j := 0) rfl ?_
              refine v_icmp_ne C 257 dL_isDone_250 (by decide) (fun b1 => absurd b1 (fun q => q rfl)) (fun b1 => ?_)
              refine v_iconst C dL_isDone_253 (v := 1) (by decide) ?_
              refine v_goto C 258 dL_isDone_254 (by decide) ?_
              exact v_ireturn C dL_isDone_258 hr (rfl) (Nat.le_of_ble_eq_true rfl) (Nat.le_of_ble_eq_true rfl) (⟨x3, w, Y, _, rfl, rfl, hF3, u1, u2, Or.inl (opRule_n S _ _ _)⟩)
            · skip
              by_cases hc : isPat (nI pk) (nI fk) (nI sk) = true
              · skip
                by_cases h8 : S.2.2.2.2.length < 8
                · skip
                  have hop : opRule S (nI pk) (nI fk) (nI sk) = (0, nI S.2.2.2.2.length, (S.1, S.2.1, S.2.2.1, S.2.2.2.1, S.2.2.2.2 ++ [((nI pk, nI fk, nI sk), false, [])])) := by unfold opRule; rw [if_pos hc, if_pos h8]
                  obtain rfl : due = nI S.2.2.2.2.length := by rw [← hdue, hop]; rfl
                  rw [hop] at K
                  refine v_iload C dL_isDone_193 (j := 0) rfl ?_
                  refine v_if_lt C 237 dL_isDone_195 (by decide) (fun b1 => absurd b1 (nI_pos (by omega))) (fun b1 => ?_)
                  refine v_aload C dL_isDone_198 (j := 16) rfl ?_
                  refine v_iconst C dL_isDone_200 (v := 5) (by decide) ?_
                  refine v_iload C dL_isDone_201 (j := 0) rfl ?_
                  refine v_imul C dL_isDone_203 ?_
                  refine v_int (b := nI (5 * S.2.2.2.2.length)) (q50 _) ?_
                  refine v_iload C dL_isDone_204 (j := 4) rfl ?_
                  refine v_iast C dL_isDone_206 1 ht1 (vp_in_nI (by show 5 * S.2.2.2.2.length < 40; omega) (by decide)) (N_sq _) ?_
                  rw [nI_clamp (by omega)]
                  refine v_aload C dL_isDone_207 (j := 16) rfl ?_
                  refine v_iconst C dL_isDone_209 (v := 5) (by decide) ?_
                  refine v_iload C dL_isDone_210 (j := 0) rfl ?_
                  refine v_imul C dL_isDone_212 ?_
                  refine v_iconst C dL_isDone_213 (v := 1) (by decide) ?_
                  refine v_iadd C dL_isDone_214 ?_
                  refine v_int (b := nI (5 * S.2.2.2.2.length + 1)) (q5 _ 1) ?_
                  refine v_iload C dL_isDone_215 (j := 3) rfl ?_
                  refine v_iast C dL_isDone_217 1 ht1 (vp_in_nI (by show 5 * S.2.2.2.2.length + 1 < 40; omega) (by decide)) (N_sq _) ?_
                  rw [nI_clamp (by omega)]
                  refine v_aload C dL_isDone_218 (j := 16) rfl ?_
                  refine v_iconst C dL_isDone_220 (v := 5) (by decide) ?_
                  refine v_iload C dL_isDone_221 (j := 0) rfl ?_
                  refine v_imul C dL_isDone_223 ?_
                  refine v_iconst C dL_isDone_224 (v := 2) (by decide) ?_
                  refine v_iadd C dL_isDone_225 ?_
                  refine v_int (b := nI (5 * S.2.2.2.2.length + 2)) (q5 _ 2) ?_
                  refine v_iload C dL_isDone_226 (j := 2) rfl ?_
                  refine v_iast C dL_isDone_228 1 ht1 (vp_in_nI (by show 5 * S.2.2.2.2.length + 2 < 40; omega) (by decide)) (N_sq _) ?_
                  rw [nI_clamp (by omega)]
                  obtain ⟨X3, hX3, n0, n1, n2, no, nc⟩ : ∃ X3, X3 = va_up (va_up (va_up X 4 (upd (X 4) (5 * S.2.2.2.2.length) (nI pk))) 4 (upd (va_up X 4 (upd (X 4) (5 * S.2.2.2.2.length) (nI pk)) 4) (5 * S.2.2.2.2.length + 1) (nI fk))) 4 (upd (va_up (va_up X 4 (upd (X 4) (5 * S.2.2.2.2.length) (nI pk))) 4 (upd (va_up X 4 (upd (X 4) (5 * S.2.2.2.2.length) (nI pk)) 4) (5 * S.2.2.2.2.length + 1) (nI fk)) 4) (5 * S.2.2.2.2.length + 2) (nI sk)) ∧ X3 4 (5 * S.2.2.2.2.length) = nI pk ∧ X3 4 (5 * S.2.2.2.2.length + 1) = nI fk ∧ X3 4 (5 * S.2.2.2.2.length + 2) = nI sk ∧ (∀ j, j ≠ 5 * S.2.2.2.2.length → j ≠ 5 * S.2.2.2.2.length + 1 → j ≠ 5 * S.2.2.2.2.length + 2 → X3 4 j = X 4 j) ∧ ich [4] X X3 := ⟨_, rfl, by rw [va_up_same, va_up_same, va_up_same]; unfold upd; rw [if_neg (by omega), if_neg (by omega), if_pos rfl], by rw [va_up_same, va_up_same]; unfold upd; rw [if_neg (by omega), if_pos rfl], by rw [va_up_same]; unfold upd; rw [if_pos rfl], fun j j1 j2 j3 => by rw [va_up_same, va_up_same, va_up_same]; unfold upd; rw [if_neg j3, if_neg j2, if_neg j1], (ich_u (by decide) _).tr ((ich_u (by decide) _).tr (ich_u (by decide) _))⟩
                  rw [← hX3]
                  clear hX3
                  refine v_aload C dL_isDone_229 (j := 18) rfl ?_
                  refine v_iconst C dL_isDone_231 (v := 3) (by decide) ?_
                  refine v_dup2 C dL_isDone_232 rfl rfl ?_
                  refine v_iald C dL_isDone_233 1 ht1 N_g (by unfold vp_in; decide) ?_
                  refine v_int (b := nI S.2.2.2.2.length) ((congrFun (nc 5 (by decide)) 3).trans g3) ?_
                  refine v_iconst C dL_isDone_234 (v := 1) (by decide) ?_
                  refine v_iadd C dL_isDone_235 ?_
                  rw [nI_1]
                  refine v_iast C dL_isDone_236 1 ht1 (by unfold vp_in; decide) (N_sg _) ?_
                  obtain ⟨X4, hX4, m3, mo, mc⟩ : ∃ X4, X4 = va_up X3 5 (upd (X3 5) (3 : Int32).toNatClampNeg (nI (S.2.2.2.2.length + 1))) ∧ X4 5 3 = nI (S.2.2.2.2.length + 1) ∧ (∀ j, j ≠ 3 → X4 5 j = X 5 j) ∧ ich [5] X3 X4 := ⟨_, rfl, by rw [va_up_same]; rfl, fun j hj => by rw [va_up_same]; exact (if_neg hj).trans (congrFun (nc 5 (by decide)) j), ich_u (by decide) _⟩
                  rw [← hX4]
                  clear hX4
                  have c4 := mc 4 (by decide)
                  have cc : ich [4, 5] X X4 := (nc.mo (by decide)).tr (mc.mo (by decide))
                  refine v_sub [0, 2, 3, 4, 9, 10, 11, 12, 13, 14, 15, 16, 17, 18, 19, 20, 21, 22] rfl ?_
                  refine K X4 ⟨⟨⟨(mo 0 (by decide)).trans e0, (mo 1 (by decide)).trans e1, e3.ch cc (by decide), nRu_new eR0 h8 hc m3 (by rw [c4]; exact n0) (by rw [c4]; exact n1) (by rw [c4]; exact n2) (fun j j1 j2 j3 => by rw [c4]; exact no j j1 j2 j3)⟩, eW.1.ch cc (by decide), eW.2.1.ch (mo 4 (by decide)) (cc 6 (by decide)) rfl rfl, eW.2.2.1.ch (mo 5 (by decide)) rfl, (mo 2 (by decide)).trans eW.2.2.2⟩, hk⟩
                · skip
                  have hop : opRule S (nI pk) (nI fk) (nI sk) = (2, 0, S) := by unfold opRule; rw [if_pos hc, if_neg h8]
                  obtain rfl : due = -100000 := by rw [← hdue, hop]; rfl
                  rw [hop] at K
                  refine v_iload C dL_isDone_193 (j := 0) rfl ?_
                  refine v_if_lt C 237 dL_isDone_195 (by decide) (fun b1 => ?_) (fun b1 => absurd b1 (fun q => q (by decide)))
                  refine v_sub [0, 2, 3, 4, 9, 10, 11, 12, 13, 14, 15, 16, 17, 18, 19, 20, 21, 22] rfl ?_
                  exact K X ⟨⟨⟨e0, e1, e3, eR0⟩, eW⟩, hk⟩
              · skip
                have hop : opRule S (nI pk) (nI fk) (nI sk) = (1, 0, S) := by unfold opRule; rw [if_neg hc]
                obtain rfl : due = -200000 := by rw [← hdue, hop]; rfl
                rw [hop] at K
                refine v_iload C dL_isDone_193 (j := 0) rfl ?_
                refine v_if_lt C 237 dL_isDone_195 (by decide) (fun b1 => ?_) (fun b1 => absurd b1 (fun q => q (by decide)))
                refine v_sub [0, 2, 3, 4, 9, 10, 11, 12, 13, 14, 15, 16, 17, 18, 19, 20, 21, 22] rfl ?_
                exact K X ⟨⟨⟨e0, e1, e3, eR0⟩, eW⟩, hk⟩
          · skip
            refine v_iload C dL_isDone_163 (j := 0) rfl ?_
            refine v_if_ne C 173 dL_isDone_165 (by decide) (fun c1 => ?_) (fun c1 => ?_)
            · skip
              refine v_aload C dL_isDone_173 (j := 17) rfl ?_
              refine v_iconst C dL_isDone_175 (v := 3) (by decide) ?_
              refine v_iald C dL_isDone_176 1 ht1 N_g (by unfold vp_in; decide) ?_
              refine v_int (b := nI S.2.2.2.2.length) g3 ?_
              refine v_bipush C dL_isDone_177 (v := 8) (by decide) ?_
              refine v_icmp_ne C 187 dL_isDone_179 (by decide) (fun c2 => ?_) (fun c2 => ?_)
              · skip
                have c3 : S.2.2.2.2.length ≠ 8 := fun z => c2 (by rw [z]; rfl)
                refine v_aload C dL_isDone_187 (j := 17) rfl ?_
                refine v_iconst C dL_isDone_189 (v := 3) (by decide) ?_
                refine v_iald C dL_isDone_190 1 ht1 N_g (by unfold vp_in; decide) ?_
                refine v_int (b := nI S.2.2.2.2.length) g3 ?_
                exact K _ (by rw [← hdue]; unfold opRule; rw [if_pos (bI_1 c1), if_pos (by omega)]; rfl)
              · skip
                have c3 : S.2.2.2.2.length = 8 := by have := congrArg Int32.toNatClampNeg c2; rw [nI_clamp (by omega)] at this; exact this
                refine v_ldc C dL_isDone_182 (v := (-100000)) wwL_isDone_k53 ?_
                refine v_goto C 191 dL_isDone_184 (by decide) ?_
                exact K _ (by rw [← hdue]; unfold opRule; rw [if_pos (bI_1 c1), if_neg (by omega)]; rfl)
            · skip
              refine v_ldc C dL_isDone_168 (v := (-200000)) wwL_isDone_k50 ?_
              refine v_goto C 191 dL_isDone_170 (by decide) ?_
              exact K _ (by rw [← hdue]; unfold opRule; rw [if_neg (by rw [bI_0 c1]; decide)]; rfl)
        · skip
          refine v_cut0 (pcj := 156) (lvj := [(20, .int (nI sk)), (19, .int (nI fk)), (18, .int (nI pk)), (17, .int (nI t3)), (16, .int (nI t2)), (15, .int (nI t1)), (14, .int (nI t0)), (0, .ref (a 0)), (1, .ref b), (2, .int (nI i)), (3, .ref (ad 0)), (4, .ref (ad 1)), (5, .ref (ad 2)), (6, .ref (ad 3)), (7, .ref (ad 4)), (8, .ref (al 0)), (9, .ref (ad 5)), (10, .ref (ad 6)), (11, .ref (al 1)), (12, .ref (al 2)), (13, .ref (al 3))]) (stj := []) (isPat (nI pk) (nI fk) (nI sk) = true) (fun hw => ?_) (fun K1 => ?_)
          · skip
            refine v_iconst C dL_isDone_156 (v := 1) (by decide) ?_
            refine v_goto C 161 dL_isDone_157 (by decide) ?_
            exact K _ (bI_t hw)
          · skip
            refine v_cut0 (pcj := 160) (lvj := [(20, .int (nI sk)), (19, .int (nI fk)), (18, .int (nI pk)), (17, .int (nI t3)), (16, .int (nI t2)), (15, .int (nI t1)), (14, .int (nI t0)), (0, .ref (a 0)), (1, .ref b), (2, .int (nI i)), (3, .ref (ad 0)), (4, .ref (ad 1)), (5, .ref (ad 2)), (6, .ref (ad 3)), (7, .ref (ad 4)), (8, .ref (al 0)), (9, .ref (ad 5)), (10, .ref (ad 6)), (11, .ref (al 1)), (12, .ref (al 2)), (13, .ref (al 3))]) (stj := []) (isPat (nI pk) (nI fk) (nI sk) = false) (fun hw => ?_) (fun K2 => ?_)
            · skip
              refine v_iconst C dL_isDone_160 (v := 0) (by decide) ?_
              exact K _ (bI_f hw)
            · skip
              refine v_iload C dL_isDone_124 (j := 2) rfl ?_
              refine v_iconst C dL_isDone_126 (v := 4) (by decide) ?_
              refine v_icmp_ge C 160 dL_isDone_127 (by decide) (fun c1 => ?_) (fun c1 => ?_)
              · skip
                exact K2 (by rw [hpn]; exact decide_eq_false (by have := le_of (a := 4) c1 (by decide) (by omega); omega))
              · skip
                have d1 := lt_ofn (a := 4) c1 (by decide) (by omega)
                refine v_iload C dL_isDone_130 (j := 2) rfl ?_
                refine v_if_eq C 156 dL_isDone_132 (by decide) (fun c2 => ?_) (fun c2 => ?_)
                · skip
                  have d2 : pk = 0 := by have := congrArg Int32.toNatClampNeg c2; rw [nI_clamp (by omega)] at this; exact this
                  exact K1 (by rw [hpn]; exact decide_eq_true (by omega))
                · skip
                  have d2 : pk ≠ 0 := fun z => c2 (by rw [z]; rfl)
                  refine v_iload C dL_isDone_135 (j := 1) rfl ?_
                  refine v_sipush C dL_isDone_137 (v := 10000) (by decide) ?_
                  refine v_icmp_ge C 160 dL_isDone_140 (by decide) (fun c3 => ?_) (fun c3 => ?_)
                  · skip
                    exact K2 (by rw [hpn]; exact decide_eq_false (by have := le_of (a := 10000) c3 (by decide) (by omega); omega))
                  · skip
                    have d3 := lt_ofn (a := 10000) c3 (by decide) (by omega)
                    refine v_iload C dL_isDone_143 (j := 2) rfl ?_
                    refine v_iconst C dL_isDone_145 (v := 2) (by decide) ?_
                    refine v_icmp_ne C 156 dL_isDone_146 (by decide) (fun c4 => ?_) (fun c4 => ?_)
                    · skip
                      have d4 : pk ≠ 2 := fun z => c4 (by rw [z]; rfl)
                      exact K1 (by rw [hpn]; exact decide_eq_true (by omega))
                    · skip
                      have d4 : pk = 2 := by have := congrArg Int32.toNatClampNeg c4; rw [nI_clamp (by omega)] at this; exact this
                      refine v_iload C dL_isDone_149 (j := 0) rfl ?_
                      refine v_bipush C dL_isDone_151 (v := 13) (by decide) ?_
                      refine v_icmp_ge C 160 dL_isDone_153 (by decide) (fun c5 => ?_) (fun c5 => ?_)
                      · skip
                        exact K2 (by rw [hpn]; exact decide_eq_false (by have := le_of (a := 13) c5 (by decide) (by omega); omega))
                      · skip
                        have d5 := lt_ofn (a := 13) c5 (by decide) (by omega)
                        exact K1 (by rw [hpn]; exact decide_eq_true (by omega))
      · skip
        refine v_iload C dL_isDone_103 (j := 1) rfl ?_
        refine v_iconst C dL_isDone_105 (v := 2) (by decide) ?_
        refine v_icmp_ne C 117 dL_isDone_106 (by decide) (fun c1 => ?_) (fun c1 => ?_)
        · skip
          refine v_iload C dL_isDone_117 (j := 2) rfl ?_
          refine v_bipush C dL_isDone_119 (v := 6) (by decide) ?_
          refine v_irem C dL_isDone_121 (by decide) ?_
          exact K _ ⟨t3 % 6, pk_rem (d := 6) (by omega) (by decide) (by decide), Or.inr ⟨fun z => c1 (by rw [z]; rfl), Nat.mod_lt _ (by decide)⟩⟩
        · skip
          have d4 : pk = 2 := by have := congrArg Int32.toNatClampNeg c1; rw [nI_clamp (by omega)] at this; exact this
          refine v_iload C dL_isDone_109 (j := 2) rfl ?_
          refine v_bipush C dL_isDone_111 (v := 14) (by decide) ?_
          refine v_irem C dL_isDone_113 (by decide) ?_
          refine v_goto C 122 dL_isDone_114 (by decide) ?_
          exact K _ ⟨t3 % 14, pk_rem (d := 14) (by omega) (by decide) (by decide), Or.inl ⟨d4, Nat.mod_lt _ (by decide)⟩⟩
    · skip
      refine v_iload C dL_isDone_69 (j := 2) rfl ?_
      refine v_bipush C dL_isDone_71 (v := 20) (by decide) ?_
      refine v_irem C dL_isDone_73 (by decide) ?_
      refine v_if_ne C 83 dL_isDone_74 (by decide) (fun c1 => ?_) (fun c1 => ?_)
      · skip
        refine v_iload C dL_isDone_83 (j := 0) rfl ?_
        refine v_iconst C dL_isDone_85 (v := 3) (by decide) ?_
        refine v_icmp_ne C 96 dL_isDone_86 (by decide) (fun c2 => ?_) (fun c2 => ?_)
        · skip
          refine v_iload C dL_isDone_96 (j := 2) rfl ?_
          refine v_bipush C dL_isDone_98 (v := 13) (by decide) ?_
          refine v_irem C dL_isDone_100 (by decide) ?_
          exact K _ ⟨t2 % 13, pk_rem (d := 13) (by omega) (by decide) (by decide), Or.inr (Or.inl ⟨fun z => c2 (by rw [z]; rfl), Nat.mod_lt _ (by decide)⟩)⟩
        · skip
          have d4 : pk = 3 := by have := congrArg Int32.toNatClampNeg c2; rw [nI_clamp (by omega)] at this; exact this
          refine v_iload C dL_isDone_89 (j := 2) rfl ?_
          refine v_iconst C dL_isDone_91 (v := 5) (by decide) ?_
          refine v_irem C dL_isDone_92 (by decide) ?_
          refine v_goto C 101 dL_isDone_93 (by decide) ?_
          exact K _ ⟨t2 % 5, pk_rem (d := 5) (by omega) (by decide) (by decide), Or.inl ⟨d4, Nat.mod_lt _ (by decide)⟩⟩
      · skip
        refine v_sipush C dL_isDone_77 (v := 10000) (by decide) ?_
        refine v_goto C 101 dL_isDone_80 (by decide) ?_
        exact K _ ⟨10000, rfl, Or.inr (Or.inr rfl)⟩
  · skip
    refine v_iload C dL_isDone_51 (j := 2) rfl ?_
    refine v_bipush C dL_isDone_53 (v := 25) (by decide) ?_
    refine v_irem C dL_isDone_55 (by decide) ?_
    refine v_if_ne C 63 dL_isDone_56 (by decide) (fun c1 => ?_) (fun c1 => ?_)
    · skip
      refine v_iload C dL_isDone_63 (j := 2) rfl ?_
      refine v_iconst C dL_isDone_65 (v := 4) (by decide) ?_
      refine v_irem C dL_isDone_66 (by decide) ?_
      exact K _ ⟨t1 % 4, by have := Nat.mod_lt t1 (show 0 < 4 by decide); omega, pk_rem (d := 4) (by omega) (by decide) (by decide)⟩
    · skip
      refine v_iconst C dL_isDone_59 (v := 4) (by decide) ?_
      refine v_goto C 67 dL_isDone_60 (by decide) ?_
      exact K _ ⟨4, by decide, rfl⟩
end DN
