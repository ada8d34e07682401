/-! ===== the law: a line printed; whether a rule is true ===== -/

def nLns (X : Nat → Nat → Int32) (Y : Nat → Nat → Int64) (ls : List (List Int32)) : Prop := X 5 5 = nI ls.length ∧ ls.length ≤ 40 ∧ ∀ i, i < ls.length → Y 3 i = tldF (ls.getD i [])
theorem nLns.ch {X X' : Nat → Nat → Int32} {Y Y' : Nat → Nat → Int64} {ls : List (List Int32)} (h : nLns X Y ls) (h5 : X' 5 5 = X 5 5) (h3 : Y' 3 = Y 3) : nLns X' Y' ls := by
  unfold nLns at *
  rw [h5, h3]
  exact h
theorem q5 (i j : Nat) : 5 * nI i + nI j = nI (5 * i + j) := by rw [show (5 : Int32) = nI 5 from rfl, nI_mul, nI_add]
theorem q50 (i : Nat) : 5 * nI i = nI (5 * i) := by rw [show (5 : Int32) = nI 5 from rfl, nI_mul]
section NP
variable {l : Launch} {D : va_G} {tys : List (ClassId × FieldType)} {z0 : Nat} {A : Nat → Prop} {σ0 : Type} {pic0 : σ0 → Heap → Prop} {cI cJ : ClassId} {ad al : Nat → Nat} {y0 : σ0} {X : Nat → Nat → Int32} {Y : Nat → Nat → Int64} {sep rnum : Int32} {r v : List Int32} {ls : List (List Int32)}
set_option maxRecDepth 100000 in
set_option maxHeartbeats 8000000 in
theorem n_prints (ht1 : tys[1]? = some (cI, .int)) (ht6 : tys[6]? = some (cJ, .long)) (hv : nT 1 X v) (hls : nLns X Y ls) : ct D tys z0 A (picN pic0 cI cJ ad al A) l yL_prints wsL_prints (rmL 1 25) [.ref (ad 1), .ref (ad 5), .ref (al 3)] (y0, X, Y) (qV (picN pic0 cI cJ ad al A) A (fun x => ∃ X' Y', x = (y0, X', Y') ∧ nLns X' Y' (addL ls v) ∧ (∀ j, j ≠ 5 → X' 5 j = X 5 j) ∧ ich [5] X X' ∧ ∀ j, j ≠ 3 → Y' j = Y j)) := by
  have hls2 := hls
  obtain ⟨g5, g40, gl⟩ := hls2
  refine ct_of RL (by decide +kernel) rfl rfl (Nat.le_of_ble_eq_true rfl) ?_
  intro p e s m below meth c C hr hm
  refine v_lv (lv' := [(0, _), (1, _), (2, _)]) rfl ?_
  refine v_iconst C dL_prints_0 (v := 0) (by decide) ?_
  refine v_istore_n C dL_prints_1 rfl (by decide) (lv' := [(3, _), (0, _), (1, _), (2, _)]) rfl ?_
  refine v_cutX (pcj := 30) (fun w : List (List Int32) × (Nat → Nat → Int64) => (y0, X, w.2)) (fun _ => [(0, .ref (ad 1)), (1, .ref (ad 5)), (2, .ref (al 3))]) (fun _ => []) (fun w => w.1.length < 40 ∧ w.1 ++ [v] = addL ls v ∧ w.1.length + (if ls.length = 40 then 1 else 0) = ls.length ∧ (∀ i, i < w.1.length → w.2 3 i = tldF (w.1.getD i [])) ∧ ∀ j, j ≠ 3 → w.2 j = Y j) (fun w hw => ?_) (fun K => ?_)
  · skip
    obtain ⟨l0, Y1⟩ := w
    obtain ⟨w1, w2, w3, w4, w5⟩ := hw
    dsimp only at w1 w2 w3 w4 w5 ⊢
    refine v_aload_n C dL_prints_30 (j := 1) rfl rfl ?_
    refine v_iconst C dL_prints_31 (v := 5) (by decide) ?_
    refine v_dup2 C dL_prints_32 rfl rfl ?_
    refine v_iald C dL_prints_33 1 ht1 N_g (by unfold vp_in; decide) ?_
    refine v_int (b := nI ls.length) g5 ?_
    refine v_aload_n C dL_prints_34 (j := 1) rfl rfl ?_
    refine v_iconst C dL_prints_35 (v := 5) (by decide) ?_
    refine v_iald C dL_prints_36 1 ht1 N_g (by unfold vp_in; decide) ?_
    refine v_int (b := nI ls.length) g5 ?_
    refine v_cut (pcj := 47) (lvj := [(0, .ref (ad 1)), (1, .ref (ad 5)), (2, .ref (al 3))]) (stj := [.int (nI ls.length), .int 5, .ref (ad 5)]) (fun w => w = nI (if ls.length = 40 then 1 else 0)) (fun w hw => ?_) (fun K => ?_)
    · skip
      subst hw
      refine v_isub C dL_prints_47 ?_
      refine v_int (b := nI l0.length) (by rw [nI_subN (by omega)]; congr 1; omega) ?_
      refine v_iast C dL_prints_48 1 ht1 (by unfold vp_in; decide) (N_sg _) ?_
      obtain ⟨X1, hX1, x5, xo, xc⟩ : ∃ X1, X1 = va_up X 5 (upd (X 5) (5 : Int32).toNatClampNeg (nI l0.length)) ∧ X1 5 5 = nI l0.length ∧ (∀ j, j ≠ 5 → X1 5 j = X 5 j) ∧ ich [5] X X1 := ⟨_, rfl, by rw [va_up_same]; rfl, fun j hj => by rw [va_up_same]; exact if_neg hj, ich_u (by decide) _⟩
      rw [← hX1]
      clear hX1
      have hv1 := hv.ch xc (by decide)
      refine v_aload_n C dL_prints_49 (j := 2) rfl rfl ?_
      refine v_aload_n C dL_prints_50 (j := 1) rfl rfl ?_
      refine v_iconst C dL_prints_51 (v := 5) (by decide) ?_
      refine v_iald C dL_prints_52 1 ht1 N_g (by unfold vp_in; decide) ?_
      refine v_int (b := nI l0.length) x5 ?_
      refine v_aload_n C dL_prints_53 (j := 0) rfl rfl ?_
      refine v_iconst C dL_prints_54 (v := 0) (by decide) ?_
      refine v_aload_n C dL_prints_55 (j := 0) rfl rfl ?_
      refine v_bipush C dL_prints_56 (v := 60) (by decide) ?_
      refine v_iald C dL_prints_58 1 ht1 (N_t (j := 1) (by decide)) (by unfold vp_in; decide) ?_
      refine v_int (b := nI v.length) hv1.1 ?_
      refine v_cl (v_runS C (n_told ht1 hv1) (va_cwS 3 C.1.2.2.2.2 gL_prints_L_told rfl rfl rfl (by decide +kernel) ⟨Nat.le_of_ble_eq_true rfl, Nat.le_of_ble_eq_true rfl⟩) rfl dL_prints_59 (rest := [_, _]) (Nat.le_of_ble_eq_true rfl) rfl ⟨(by first | exact Nat.le_of_ble_eq_true rfl | (dsimp only; omega)), (by first | exact Nat.le_of_ble_eq_true rfl | (dsimp only; omega))⟩) (fun q x' hx' => ?_)
      obtain ⟨rfl, rfl⟩ := hx'
      refine v_last C dL_prints_62 6 ht6 (vp_in_nI (by show l0.length < 40; omega) (by decide)) (N_sl _) ?_
      rw [nI_clamp (by omega)]
      refine v_aload_n C dL_prints_63 (j := 1) rfl rfl ?_
      refine v_iconst C dL_prints_64 (v := 5) (by decide) ?_
      refine v_dup2 C dL_prints_65 rfl rfl ?_
      refine v_iald C dL_prints_66 1 ht1 N_g (by unfold vp_in; decide) ?_
      refine v_int (b := nI l0.length) x5 ?_
      refine v_iconst C dL_prints_67 (v := 1) (by decide) ?_
      refine v_iadd C dL_prints_68 ?_
      rw [nI_1]
      refine v_iast C dL_prints_69 1 ht1 (by unfold vp_in; decide) (N_sg _) ?_
      exact v_return C dL_prints_70 hr (Nat.le_of_ble_eq_true rfl) (Nat.le_of_ble_eq_true rfl) (⟨_, _, rfl, by rw [← w2]; exact ⟨by rw [va_up_same]; simp [upd], by simp; omega, fun i hi => by simp only [List.length_append, List.length_singleton] at hi; rw [va_up_same]; unfold vp_updL; by_cases hil : i = l0.length; rw [if_pos hil, hil, getD_app2]; rw [if_neg hil, getD_app1 (by omega)]; exact w4 i (by omega)⟩, fun j hj => by rw [va_up_same]; exact (if_neg hj).trans (xo j hj), xc.tr (ich_u (by decide) _), fun j hj => by rw [va_up_other _ _ _ hj]; exact w5 j hj⟩)
    · skip
      refine v_bipush C dL_prints_37 (v := 40) (by decide) ?_
      refine v_icmp_ne C 46 dL_prints_39 (by decide) (fun c1 => ?_) (fun c1 => ?_)
      · skip
        refine v_iconst C dL_prints_46 (v := 0) (by decide) ?_
        exact K _ (by rw [if_neg (fun z => c1 (by rw [z]; rfl))]; rfl)
      · skip
        refine v_iconst C dL_prints_42 (v := 1) (by decide) ?_
        refine v_goto C 47 dL_prints_43 (by decide) ?_
        exact K _ (by rw [if_pos (by have := congrArg Int32.toNatClampNeg c1; rw [nI_clamp (by omega)] at this; exact this)]; rfl)
  · skip
    by_cases h40 : ls.length = 40
    · skip
      obtain ⟨k, Y1, hk, e1, hc, hlo, hhi, hk39⟩ : ∃ (k : Nat) (Y1 : Nat → Nat → Int64), k = 0 ∧ Y1 = Y ∧ (∀ j, j ≠ 3 → Y1 j = Y j) ∧ (∀ i, i < k → Y1 3 i = Y 3 (i + 1)) ∧ (∀ i, k ≤ i → Y1 3 i = Y 3 i) ∧ k ≤ 39 := ⟨0, Y, rfl, rfl, fun _ _ => rfl, fun i hi => absurd hi (Nat.not_lt_zero i), fun _ _ => rfl, by decide⟩
      refine v_x (x' := (y0, X, Y1)) (fun H hP => by rw [e1]; exact hP) ?_
      refine v_lv (lv' := [(3, .int (nI k)), (0, _), (1, _), (2, _)]) (by rw [hk]; rfl) ?_
      clear hk e1
      induction hd : (39 - k) using Nat.strongRecOn generalizing k Y1 with | _ d ih =>
        refine v_iload_n C dL_prints_2 (j := 0) rfl rfl ?_
        refine v_bipush C dL_prints_3 (v := 39) (by decide) ?_
        refine v_icmp_ge C 30 dL_prints_5 (by decide) (fun c1 => ?_) (fun c1 => ?_)
        · skip
          have c2 : k = 39 := by have := le_of (a := 39) c1 (by decide) (by omega); omega
          refine v_sub [1, 2, 3] rfl ?_
          exact K (ls.drop 1, Y1) ⟨by simp; omega, by unfold addL; rw [if_neg (by omega)], by rw [if_pos h40, List.length_drop]; omega, fun i hi => by dsimp only at hi ⊢; rw [List.length_drop] at hi; rw [hlo i (by omega), gl (i + 1) (by omega)]; simp only [List.getD_eq_getElem?_getD, List.getElem?_drop]; rw [Nat.add_comm], hc⟩
        · skip
          have c2 : k < 39 := lt_ofn (a := 39) c1 (by decide) (by omega)
          refine v_aload_n C dL_prints_8 (j := 2) rfl rfl ?_
          refine v_iconst C dL_prints_9 (v := 5) (by decide) ?_
          refine v_iald C dL_prints_10 1 ht1 N_g (by unfold vp_in; decide) ?_
          refine v_int (b := nI ls.length) g5 ?_
          refine v_bipush C dL_prints_11 (v := 40) (by decide) ?_
          refine v_icmp_ne C 30 dL_prints_13 (by decide) (fun c3 => absurd c3 (fun q => q (by rw [h40]; rfl))) (fun c3 => ?_)
          refine v_aload_n C dL_prints_16 (j := 3) rfl rfl ?_
          refine v_iload_n C dL_prints_17 (j := 0) rfl rfl ?_
          refine v_aload_n C dL_prints_18 (j := 3) rfl rfl ?_
          refine v_iload_n C dL_prints_19 (j := 0) rfl rfl ?_
          refine v_iconst C dL_prints_20 (v := 1) (by decide) ?_
          refine v_iadd C dL_prints_21 ?_
          rw [nI_1]
          refine v_lald C dL_prints_22 6 ht6 N_l (vp_in_nI (by show k + 1 < 40; omega) (by decide)) ?_
          refine v_long (b := Y 3 (k + 1)) (by rw [nI_clamp (by omega)]; exact hhi _ (by omega)) ?_
          refine v_last C dL_prints_23 6 ht6 (vp_in_nI (by show k < 40; omega) (by decide)) (N_sl _) ?_
          rw [nI_clamp (by omega)]
          refine v_iinc C dL_prints_24 (j := 0) (v := _ + 1) rfl rfl (by decide) (lv' := [(3, _), (0, _), (1, _), (2, _)]) rfl ?_
          refine v_goto C 2 dL_prints_27 (by decide) ?_
          rw [nI_1]
          exact ih (39 - (k + 1)) (by omega) (k + 1) _ (fun j hj => by rw [va_up_other _ _ _ hj]; exact hc j hj) (fun i hi => by rw [va_up_same]; unfold vp_updL; by_cases hik : i = k; rw [if_pos hik, hik]; rw [if_neg hik]; exact hlo i (by omega)) (fun i hi => by rw [va_up_same]; unfold vp_updL; rw [if_neg (by omega)]; exact hhi i (by omega)) (by omega) rfl
    · skip
      refine v_iload_n C dL_prints_2 (j := 0) rfl rfl ?_
      refine v_bipush C dL_prints_3 (v := 39) (by decide) ?_
      refine v_icmp_ge C 30 dL_prints_5 (by decide) (fun c1 => absurd c1 (by decide)) (fun c1 => ?_)
      refine v_aload_n C dL_prints_8 (j := 2) rfl rfl ?_
      refine v_iconst C dL_prints_9 (v := 5) (by decide) ?_
      refine v_iald C dL_prints_10 1 ht1 N_g (by unfold vp_in; decide) ?_
      refine v_int (b := nI ls.length) g5 ?_
      refine v_bipush C dL_prints_11 (v := 40) (by decide) ?_
      refine v_icmp_ne C 30 dL_prints_13 (by decide) (fun c3 => ?_) (fun c3 => absurd c3 (fun q => h40 (by have := congrArg Int32.toNatClampNeg q; rw [nI_clamp (by omega)] at this; exact this)))
      refine v_sub [1, 2, 3] rfl ?_
      exact K (ls, Y) ⟨by dsimp only; omega, by unfold addL; rw [if_pos (by omega)], by rw [if_neg h40]; rfl, gl, fun _ _ => rfl⟩
set_option maxRecDepth 100000 in
set_option maxHeartbeats 8000000 in
theorem n_isTrue (ht1 : tys[1]? = some (cI, .int)) (hR : nT 0 X r) (hok : oks r) (hg : X 5 0 = sep) {i : Nat} (hi : i < 8) {pat a b : Int32} {op : Bool} (g1 : X 4 (5 * i) = pat) (g2 : X 4 (5 * i + 1) = a) (g3 : X 4 (5 * i + 2) = b) (g4 : X 4 (5 * i + 3) = bI op) (hp : pat = 0 ∨ pat = 1 ∨ pat = 2 ∨ pat = 3) (hpk : okPat pat a b) : ct D tys z0 A (picN pic0 cI cJ ad al A) l yL_isTrue wsL_isTrue (rmL 3 79) [.ref (ad 0), .ref (ad 5), .ref (ad 4), .int (nI i)] (y0, X, Y) (qI (picN pic0 cI cJ ad al A) A (fun q x => ∃ X', x = (y0, X', Y) ∧ q = bI (patB pat a b op (fld sep r)) ∧ X' 4 (5 * i + 3) = bI (patO pat a b op (fld sep r)) ∧ (∀ j, j ≠ 5 * i + 3 → X' 4 j = X 4 j) ∧ ich [4] X X')) := by
  refine ct_of RL (by decide +kernel) rfl rfl (Nat.le_of_ble_eq_true rfl) ?_
  intro p e s m below meth c C hr hm
  refine v_lv (lv' := [(0, _), (1, _), (2, _), (3, _)]) rfl ?_
  refine v_aload_n C dL_isTrue_0 (j := 2) rfl rfl ?_
  refine v_iconst C dL_isTrue_1 (v := 5) (by decide) ?_
  refine v_iload_n C dL_isTrue_2 (j := 3) rfl rfl ?_
  refine v_imul C dL_isTrue_3 ?_
  refine v_iconst C dL_isTrue_4 (v := 1) (by decide) ?_
  refine v_iadd C dL_isTrue_5 ?_
  refine v_int (b := nI (5 * i + 1)) (q5 i 1) ?_
  refine v_iald C dL_isTrue_6 1 ht1 N_q (vp_in_nI (by show 5 * i + 1 < 40; omega) (by decide)) ?_
  refine v_int (b := a) (by rw [nI_clamp (by omega)]; exact g2) ?_
  refine v_istore C dL_isTrue_7 (by decide) (lv' := [(4, _), (0, _), (1, _), (2, _), (3, _)]) rfl ?_
  refine v_aload_n C dL_isTrue_9 (j := 3) rfl rfl ?_
  refine v_iconst C dL_isTrue_10 (v := 5) (by decide) ?_
  refine v_iload_n C dL_isTrue_11 (j := 4) rfl rfl ?_
  refine v_imul C dL_isTrue_12 ?_
  refine v_iconst C dL_isTrue_13 (v := 2) (by decide) ?_
  refine v_iadd C dL_isTrue_14 ?_
  refine v_int (b := nI (5 * i + 2)) (q5 i 2) ?_
  refine v_iald C dL_isTrue_15 1 ht1 N_q (vp_in_nI (by show 5 * i + 2 < 40; omega) (by decide)) ?_
  refine v_int (b := b) (by rw [nI_clamp (by omega)]; exact g3) ?_
  refine v_istore C dL_isTrue_16 (by decide) (lv' := [(5, _), (4, _), (0, _), (1, _), (2, _), (3, _)]) rfl ?_
  refine v_aload_n C dL_isTrue_18 (j := 4) rfl rfl ?_
  refine v_iconst C dL_isTrue_19 (v := 5) (by decide) ?_
  refine v_iload_n C dL_isTrue_20 (j := 5) rfl rfl ?_
  refine v_imul C dL_isTrue_21 ?_
  refine v_int (b := nI (5 * i)) (q50 i) ?_
  refine v_iald C dL_isTrue_22 1 ht1 N_q (vp_in_nI (by show 5 * i < 40; omega) (by decide)) ?_
  refine v_int (b := pat) (by rw [nI_clamp (by omega)]; exact g1) ?_
  by_cases h3 : pat = 3
  · skip
    refine v_istore C dL_isTrue_23 (by decide) (lv' := [(6, _), (5, _), (4, _), (0, _), (1, _), (2, _), (3, _)]) rfl ?_
    refine v_iload C dL_isTrue_25 (j := 0) rfl ?_
    refine v_iconst C dL_isTrue_27 (v := 3) (by decide) ?_
    refine v_icmp_ge C 75 dL_isTrue_28 (by decide) (fun c1 => ?_) (fun c1 => absurd c1 (fun q => q (by rw [h3]; decide)))
    refine v_aload_n C dL_isTrue_75 (j := 5) rfl rfl ?_
    refine v_iconst C dL_isTrue_76 (v := 5) (by decide) ?_
    refine v_iload_n C dL_isTrue_77 (j := 6) rfl rfl ?_
    refine v_imul C dL_isTrue_78 ?_
    refine v_iconst C dL_isTrue_79 (v := 3) (by decide) ?_
    refine v_iadd C dL_isTrue_80 ?_
    refine v_int (b := nI (5 * i + 3)) (q5 i 3) ?_
    refine v_iald C dL_isTrue_81 1 ht1 N_q (vp_in_nI (by show 5 * i + 3 < 40; omega) (by decide)) ?_
    refine v_int (b := bI op) (by rw [nI_clamp (by omega)]; exact g4) ?_
    refine v_cut (pcj := 102) (lvj := [(6, .int pat), (5, .int b), (4, .int a), (0, .ref (ad 0)), (1, .ref (ad 5)), (2, .ref (ad 4)), (3, .int (nI i))]) (stj := []) (fun w => w = bI (op || sameN (fld sep r 1) a)) (fun w hw => ?_) (fun K => ?_)
    · skip
      subst hw
      refine v_istore C dL_isTrue_102 (by decide) (lv' := [(7, _), (6, _), (5, _), (4, _), (0, _), (1, _), (2, _), (3, _)]) rfl ?_
      refine v_aload_n C dL_isTrue_104 (j := 6) rfl rfl ?_
      refine v_iconst C dL_isTrue_105 (v := 5) (by decide) ?_
      refine v_iload_n C dL_isTrue_106 (j := 7) rfl rfl ?_
      refine v_imul C dL_isTrue_107 ?_
      refine v_iconst C dL_isTrue_108 (v := 3) (by decide) ?_
      refine v_iadd C dL_isTrue_109 ?_
      refine v_int (b := nI (5 * i + 3)) (q5 i 3) ?_
      refine v_cut (pcj := 131) (lvj := [(7, .int (bI (op || sameN (fld sep r 1) a))), (0, .ref (ad 0))]) (stj := [.int (nI (5 * i + 3)), .ref (ad 4)]) (fun w => w = bI (patO pat a b op (fld sep r))) (fun w hw => ?_) (fun K => ?_)
      · skip
        subst hw
        refine v_iast C dL_isTrue_131 1 ht1 (vp_in_nI (by show 5 * i + 3 < 40; omega) (by decide)) (N_sq _) ?_
        rw [nI_clamp (by omega)]
        refine v_iload C dL_isTrue_132 (j := 0) rfl ?_
        exact v_ireturn C dL_isTrue_134 hr (bI_nar _) (Nat.le_of_ble_eq_true rfl) (Nat.le_of_ble_eq_true rfl) (⟨_, rfl, by unfold patB; rw [if_neg (by rw [h3]; decide), if_neg (by rw [h3]; decide), if_pos h3], by rw [va_up_same]; unfold upd; rw [if_pos rfl], fun j hj => by rw [va_up_same]; exact if_neg hj, ich_u (by decide) _⟩)
      · skip
        refine v_iload C dL_isTrue_110 (j := 0) rfl ?_
        refine v_if_eq C 130 dL_isTrue_112 (by decide) (fun c2 => ?_) (fun c2 => ?_)
        · skip
          refine v_iconst C dL_isTrue_130 (v := 0) (by decide) ?_
          refine v_sub [0, 4] rfl ?_
          exact K _ (by unfold patO; rw [if_pos h3, if_neg (by rw [bI_0 c2]; decide), (by have := bI_0 c2; rw [Bool.or_eq_false_iff] at this; exact this.1 : op = false)]; rfl)
        · skip
          refine v_aload_n C dL_isTrue_115 (j := 4) rfl rfl ?_
          refine v_aload_n C dL_isTrue_116 (j := 5) rfl rfl ?_
          refine v_iconst C dL_isTrue_117 (v := 1) (by decide) ?_
          refine v_iload C dL_isTrue_118 (j := 2) rfl ?_
          refine v_ci (v_runS C (n_isField ht1 hR hg (k := 1) (by decide) b) (va_cwS 4 C.1.2.2.2.2 gL_isTrue_L_isField rfl rfl rfl (by decide +kernel) ⟨Nat.le_of_ble_eq_true rfl, Nat.le_of_ble_eq_true rfl⟩) rfl dL_isTrue_120 (rest := [_, _]) (Nat.le_of_ble_eq_true rfl) rfl ⟨(by first | exact Nat.le_of_ble_eq_true rfl | (dsimp only; omega)), (by first | exact Nat.le_of_ble_eq_true rfl | (dsimp only; omega))⟩) (fun q x' hx' => ?_)
          obtain ⟨rfl, rfl⟩ := hx'
          refine v_if_ne C 130 dL_isTrue_123 (by decide) (fun c4 => ?_) (fun c4 => ?_)
          · skip
            refine v_iconst C dL_isTrue_130 (v := 0) (by decide) ?_
            refine v_sub [0, 4] rfl ?_
            exact K _ (by unfold patO; rw [if_pos h3, if_pos (bI_1 c2), bI_1 c4]; rfl)
          · skip
            refine v_iconst C dL_isTrue_126 (v := 1) (by decide) ?_
            refine v_goto C 131 dL_isTrue_127 (by decide) ?_
            refine v_sub [0, 4] rfl ?_
            exact K _ (by unfold patO; rw [if_pos h3, if_pos (bI_1 c2), bI_0 c4]; rfl)
    · skip
      refine v_iconst C dL_isTrue_82 (v := 1) (by decide) ?_
      refine v_icmp_eq C 97 dL_isTrue_83 (by decide) (fun c2 => ?_) (fun c2 => ?_)
      · skip
        refine v_iconst C dL_isTrue_97 (v := 1) (by decide) ?_
        refine v_goto C 102 dL_isTrue_98 (by decide) ?_
        exact K _ (by rw [show op = true from by cases op; exact absurd c2 (by decide); rfl]; rfl)
      · skip
        have ho : op = false := by cases op; rfl; exact absurd rfl c2
        refine v_aload_n C dL_isTrue_86 (j := 3) rfl rfl ?_
        refine v_aload_n C dL_isTrue_87 (j := 4) rfl rfl ?_
        refine v_iconst C dL_isTrue_88 (v := 1) (by decide) ?_
        refine v_iload C dL_isTrue_89 (j := 2) rfl ?_
        refine v_ci (v_runS C (n_isField ht1 hR hg (k := 1) (by decide) a) (va_cwS 4 C.1.2.2.2.2 gL_isTrue_L_isField rfl rfl rfl (by decide +kernel) ⟨Nat.le_of_ble_eq_true rfl, Nat.le_of_ble_eq_true rfl⟩) rfl dL_isTrue_91 (rest := []) (Nat.le_of_ble_eq_true rfl) rfl ⟨(by first | exact Nat.le_of_ble_eq_true rfl | (dsimp only; omega)), (by first | exact Nat.le_of_ble_eq_true rfl | (dsimp only; omega))⟩) (fun q x' hx' => ?_)
        obtain ⟨rfl, rfl⟩ := hx'
        refine v_if_eq C 101 dL_isTrue_94 (by decide) (fun c4 => ?_) (fun c4 => ?_)
        · skip
          refine v_iconst C dL_isTrue_101 (v := 0) (by decide) ?_
          exact K _ (by rw [ho, bI_0 c4]; rfl)
        · skip
          refine v_iconst C dL_isTrue_97 (v := 1) (by decide) ?_
          refine v_goto C 102 dL_isTrue_98 (by decide) ?_
          exact K _ (by rw [ho, bI_1 c4]; rfl)
  · skip
    refine v_istore C dL_isTrue_23 (by decide) (lv' := [(6, _), (5, _), (4, _), (0, _), (1, _), (2, _), (3, _)]) rfl ?_
    refine v_iload C dL_isTrue_25 (j := 0) rfl ?_
    refine v_iconst C dL_isTrue_27 (v := 3) (by decide) ?_
    refine v_icmp_ge C 75 dL_isTrue_28 (by decide) (fun c1 => absurd c1 (by rcases hp with q | q | q | q; rw [q]; decide; rw [q]; decide; rw [q]; decide; exact absurd q h3)) (fun c1 => ?_)
    have hO : patO pat a b op (fld sep r) = op := by unfold patO; rw [if_neg h3]
    refine v_cut0 (pcj := 69) (lvj := [(0, .ref (ad 0))]) (stj := []) (patB pat a b op (fld sep r) = true) (fun hw => ?_) (fun K => ?_)
    · skip
      refine v_iconst C dL_isTrue_69 (v := 1) (by decide) ?_
      refine v_goto C 74 dL_isTrue_70 (by decide) ?_
      exact v_ireturn C dL_isTrue_74 hr (rfl) (Nat.le_of_ble_eq_true rfl) (Nat.le_of_ble_eq_true rfl) (⟨X, rfl, bI_t hw, by rw [hO]; exact g4, fun _ _ => rfl, ich.rf⟩)
    · skip
      refine v_cut0 (pcj := 73) (lvj := [(0, .ref (ad 0))]) (stj := []) (patB pat a b op (fld sep r) = false) (fun hw => ?_) (fun K2 => ?_)
      · skip
        refine v_iconst C dL_isTrue_73 (v := 0) (by decide) ?_
        exact v_ireturn C dL_isTrue_74 hr (rfl) (Nat.le_of_ble_eq_true rfl) (Nat.le_of_ble_eq_true rfl) (⟨X, rfl, bI_f hw, by rw [hO]; exact g4, fun _ _ => rfl, ich.rf⟩)
      · skip
        refine v_iload C dL_isTrue_31 (j := 0) rfl ?_
        refine v_if_eq C 69 dL_isTrue_33 (by decide) (fun c2 => ?_) (fun c2 => ?_)
        · skip
          exact v_sub [3] rfl (K (by unfold patB; rw [if_neg (by rw [c2]; decide), if_neg (by rw [c2]; decide), if_neg h3]))
        · skip
          refine v_iload C dL_isTrue_36 (j := 0) rfl ?_
          refine v_iconst C dL_isTrue_38 (v := 1) (by decide) ?_
          refine v_icmp_ne C 57 dL_isTrue_39 (by decide) (fun c4 => ?_) (fun c4 => ?_)
          · skip
            have h2 : pat = 2 := by rcases hp with q | q | q | q; exact absurd q c2; exact absurd q c4; exact q; exact absurd q h3
            obtain ⟨⟨ka, hka, ea⟩, kb, hkb, eb⟩ := hpk.2 h2
            refine v_aload_n C dL_isTrue_57 (j := 3) rfl rfl ?_
            refine v_aload_n C dL_isTrue_58 (j := 4) rfl rfl ?_
            refine v_iload C dL_isTrue_59 (j := 2) rfl ?_
            refine v_eq (w := .int (nI ka)) (by rw [ea]) ?_
            refine v_iload C dL_isTrue_61 (j := 1) rfl ?_
            refine v_eq (w := .int (nI kb)) (by rw [eb]) ?_
            refine v_ci (v_runS C (n_isLess ht1 hR hg hok hka hkb) (va_cwS 4 C.1.2.2.2.2 gL_isTrue_L_isLess rfl rfl rfl (by decide +kernel) ⟨Nat.le_of_ble_eq_true rfl, Nat.le_of_ble_eq_true rfl⟩) rfl dL_isTrue_63 (rest := []) (Nat.le_of_ble_eq_true rfl) rfl ⟨(by first | exact Nat.le_of_ble_eq_true rfl | (dsimp only; omega)), (by first | exact Nat.le_of_ble_eq_true rfl | (dsimp only; omega))⟩) (fun q x' hx' => ?_)
            obtain ⟨rfl, rfl⟩ := hx'
            have eP : patB pat a b op (fld sep r) = lessT (fld sep r ka) (fld sep r kb) := by unfold patB; rw [if_neg (by rw [h2]; decide), if_pos h2, ea, eb, nI_clamp (by omega), nI_clamp (by omega)]
            refine v_if_eq C 73 dL_isTrue_66 (by decide) (fun c5 => ?_) (fun c5 => ?_)
            · skip
              exact v_sub [3] rfl (K2 (by rw [eP]; exact bI_0 c5))
            · skip
              exact v_sub [3] rfl (K (by rw [eP]; exact bI_1 c5))
          · skip
            obtain ⟨ka, hka, ea⟩ := hpk.1 c4
            refine v_aload_n C dL_isTrue_42 (j := 3) rfl rfl ?_
            refine v_aload_n C dL_isTrue_43 (j := 4) rfl rfl ?_
            refine v_iload C dL_isTrue_44 (j := 2) rfl ?_
            refine v_eq (w := .int (nI ka)) (by rw [ea]) ?_
            refine v_iload C dL_isTrue_46 (j := 1) rfl ?_
            refine v_ci (v_runS C (n_isField ht1 hR hg hka b) (va_cwS 4 C.1.2.2.2.2 gL_isTrue_L_isField rfl rfl rfl (by decide +kernel) ⟨Nat.le_of_ble_eq_true rfl, Nat.le_of_ble_eq_true rfl⟩) rfl dL_isTrue_48 (rest := []) (Nat.le_of_ble_eq_true rfl) rfl ⟨(by first | exact Nat.le_of_ble_eq_true rfl | (dsimp only; omega)), (by first | exact Nat.le_of_ble_eq_true rfl | (dsimp only; omega))⟩) (fun q x' hx' => ?_)
            obtain ⟨rfl, rfl⟩ := hx'
            have eP : patB pat a b op (fld sep r) = sameN (fld sep r ka) b := by unfold patB; rw [if_pos c4, ea, nI_clamp (by omega)]
            refine v_if_eq C 73 dL_isTrue_51 (by decide) (fun c5 => ?_) (fun c5 => ?_)
            · skip
              exact v_sub [3] rfl (K2 (by rw [eP]; exact bI_0 c5))
            · skip
              refine v_goto C 69 dL_isTrue_54 (by decide) ?_
              exact v_sub [3] rfl (K (by rw [eP]; exact bI_1 c5))
end NP
