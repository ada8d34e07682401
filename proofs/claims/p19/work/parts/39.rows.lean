/-! ===== the law: rows ===== -/

/-- the rows' names differ -/
def ndR (rs : RR) : Prop := ∀ i j, i < rs.length → j < rs.length → (rs.getD i ([], 0)).1 = (rs.getD j ([], 0)).1 → i = j
theorem fnd_app (xs : RR) (q : List Int32 × Int32) (s : List Int32) : fnd (xs ++ [q]) s = if fnd xs s < xs.length then fnd xs s else if q.1 = s then xs.length else xs.length + 1 := by
  induction xs with
  | nil => show (if q.1 = s then 0 else 0 + 1) = _; simp [fnd]
  | cons p t ih =>
    show (if p.1 = s then 0 else fnd (t ++ [q]) s + 1) = _
    by_cases h : p.1 = s
    · rw [if_pos h, show fnd (p :: t) s = 0 from if_pos h, if_pos (by simp)]
    · rw [if_neg h, ih, fnd_no h]
      simp only [List.length_cons]
      by_cases h2 : fnd t s < t.length
      · rw [if_pos h2, if_pos (by omega)]
      · have h4 : ¬ fnd t s + 1 < t.length + 1 := by omega
        rw [if_neg h2, if_neg h4]
        by_cases h3 : q.1 = s
        · rw [if_pos h3, if_pos h3]
        · rw [if_neg h3, if_neg h3]
def foF (rs : RR) (k : Nat) (t : List Int32) : Int32 := if fnd (rs.take k) t < k then nI (fnd (rs.take k) t) else -1
theorem foF_step {rs : RR} {k : Nat} {t : List Int32} (hk : k < rs.length) (hnd : ndR rs) : foF rs (k + 1) t = if (rs.getD k ([], 0)).1 = t then nI k else foF rs k t := by
  have e1 : rs.take (k + 1) = rs.take k ++ [rs.getD k ([], 0)] := by rw [List.take_add_one, List.getD_eq_getElem?_getD, List.getElem?_eq_getElem hk]; rfl
  have e2 : (rs.take k).length = k := by rw [List.length_take]; omega
  unfold foF
  rw [e1, fnd_app, e2]
  by_cases h : fnd (rs.take k) t < k
  · have hn := fnd_name (rs.take k) t (by omega)
    have e3 : (rs.take k).getD (fnd (rs.take k) t) ([], 0) = rs.getD (fnd (rs.take k) t) ([], 0) := by simp [List.getD_eq_getElem?_getD, List.getElem?_take, h]
    rw [e3] at hn
    rw [if_pos h, if_pos (by omega), if_pos h, if_neg (fun z => by have := hnd _ _ hk (by omega) (z.trans hn.symm); omega)]
  · rw [if_neg h, if_neg h]
    by_cases h2 : (rs.getD k ([], 0)).1 = t
    · rw [if_pos h2, if_pos (by omega), if_pos h2]
    · rw [if_neg h2, if_neg (by omega), if_neg h2]
theorem foF_all (rs : RR) (t : List Int32) : foF rs rs.length t = if fnd rs t < rs.length then nI (fnd rs t) else -1 := by unfold foF; rw [List.take_length]
theorem getD_app1 {α : Type} {d : α} {xs : List α} {q : α} {i : Nat} (h : i < xs.length) : (xs ++ [q]).getD i d = xs.getD i d := by simp only [List.getD_eq_getElem?_getD]; rw [List.getElem?_append_left h]
theorem getD_app2 {α : Type} {d : α} {xs : List α} {q : α} : (xs ++ [q]).getD xs.length d = q := by simp [List.getD_eq_getElem?_getD]
def shk (f k i : Nat) : Nat := if f ≤ i ∧ i < k then i + 1 else i
theorem shk_next {f k i : Nat} (h : i ≠ k) : shk f (k + 1) i = shk f k i := by
  unfold shk
  by_cases h1 : f ≤ i ∧ i < k
  · rw [if_pos h1, if_pos (by omega)]
  · rw [if_neg h1, if_neg (by omega)]
theorem shk_same {f k : Nat} (h : f ≤ k) : shk f (k + 1) k = k + 1 := by unfold shk; rw [if_pos (by omega)]
def nRws (X : Nat → Nat → Int32) (Y : Nat → Nat → Int64) (rs : RR) : Prop := X 5 4 = nI rs.length ∧ rs.length ≤ 20 ∧ ∀ i, i < rs.length → X 6 i = (rs.getD i ([], 0)).2 ∧ ∀ w, w < 6 → kkw Y i w = wrd (rs.getD i ([], 0)).1 w
def okR (rs : RR) : Prop := ∀ i, i < rs.length → oks (rs.getD i ([], 0)).1 ∧ (rs.getD i ([], 0)).1.length ≤ 60
theorem nRws.ch {X X' : Nat → Nat → Int32} {Y Y' : Nat → Nat → Int64} {rs : RR} (h : nRws X Y rs) (h5 : X' 5 4 = X 5 4) (h6 : X' 6 = X 6) (h1 : Y' 1 = Y 1) (h2 : Y' 2 = Y 2) : nRws X' Y' rs := by
  unfold nRws kkw at *
  rw [h5, h6, h1, h2]
  exact h
theorem nRws_set {X X' : Nat → Nat → Int32} {Y : Nat → Nat → Int64} {rs : RR} {f : Nat} {t : List Int32} {w : Int32} (h : nRws X Y rs) (hf : f < rs.length) (ht : (rs.getD f ([], 0)).1 = t) (h5 : X' 5 4 = X 5 4) (h6 : X' 6 = upd (X 6) f w) : nRws X' Y (rs.set f (t, w)) := by
  obtain ⟨g1, g2, g3⟩ := h
  refine ⟨by rw [h5, g1, List.length_set], by simpa using g2, fun i hi => ?_⟩
  rw [List.length_set] at hi
  obtain ⟨k1, k2⟩ := g3 i hi
  rw [h6]
  unfold upd
  by_cases hif : i = f
  · subst hif
    have e1 : (rs.set i (t, w)).getD i ([], 0) = (t, w) := by simp [List.getD_eq_getElem?_getD, hi]
    rw [e1, if_pos rfl]
    exact ⟨rfl, fun v hv => by rw [k2 v hv, ht]⟩
  · have e1 : (rs.set f (t, w)).getD i ([], 0) = rs.getD i ([], 0) := by simp [List.getD_eq_getElem?_getD, List.getElem?_set_ne (Ne.symm hif)]
    rw [e1, if_neg hif]
    exact ⟨k1, k2⟩
theorem nRws_new {X X' : Nat → Nat → Int32} {Y Y' : Nat → Nat → Int64} {rs : RR} {t : List Int32} (h : nRws X Y rs) (hl : rs.length < 20) (h5 : X' 5 4 = nI (rs.length + 1)) (h6 : ∀ i, i < rs.length → X' 6 i = X 6 i) (h6n : X' 6 rs.length = 0) (hk : ∀ i w, i < rs.length → w < 6 → kkw Y' i w = kkw Y i w) (hkn : ∀ w, w < 6 → kkw Y' rs.length w = wrd t w) : nRws X' Y' (rs ++ [(t, 0)]) := by
  obtain ⟨g1, g2, g3⟩ := h
  refine ⟨by rw [h5]; simp, by simp; omega, fun i hi => ?_⟩
  simp only [List.length_append, List.length_singleton] at hi
  by_cases hil : i = rs.length
  · subst hil
    rw [getD_app2]
    exact ⟨h6n, hkn⟩
  · rw [getD_app1 (by omega), h6 i (by omega)]
    obtain ⟨k1, k2⟩ := g3 i (by omega)
    exact ⟨k1, fun w hw => by rw [hk i w (by omega) hw]; exact k2 w hw⟩
theorem nRws_drop {X X' : Nat → Nat → Int32} {Y Y' : Nat → Nat → Int64} {rs : RR} {f : Nat} (h : nRws X Y rs) (hf : f < rs.length) (h5 : X' 5 4 = nI (rs.length - 1)) (h6 : ∀ i, i < rs.length - 1 → X' 6 i = X 6 (shk f (rs.length - 1) i)) (hk : ∀ i w, i < rs.length - 1 → w < 6 → kkw Y' i w = kkw Y (shk f (rs.length - 1) i) w) : nRws X' Y' (rs.eraseIdx f) := by
  obtain ⟨g1, g2, g3⟩ := h
  have hl : (rs.eraseIdx f).length = rs.length - 1 := by rw [List.length_eraseIdx, if_pos hf]
  have e0 : ∀ i, i < rs.length - 1 → (rs.eraseIdx f).getD i ([], 0) = rs.getD (shk f (rs.length - 1) i) ([], 0) := fun i hi => by
    simp only [List.getD_eq_getElem?_getD]
    rw [List.getElem?_eraseIdx]
    unfold shk
    by_cases hif : i < f
    · rw [if_pos hif, if_neg (by omega)]
    · rw [if_neg hif, if_pos (by omega)]
  have e1 : ∀ i, i < rs.length - 1 → shk f (rs.length - 1) i < rs.length := fun i hi => by unfold shk; split <;> omega
  refine ⟨by rw [h5, hl], by omega, fun i hi => ?_⟩
  rw [hl] at hi
  obtain ⟨k1, k2⟩ := g3 _ (e1 i hi)
  rw [e0 i hi, h6 i hi]
  exact ⟨k1, fun w hw => by rw [hk i w hi hw]; exact k2 w hw⟩
theorem nI_neg1 {n : Nat} (h : n < 2 ^ 31) : ¬ nI n = -1 := fun z => by have := congrArg Int32.toInt z; rw [nI_toInt h, show (-1 : Int32).toInt = -1 from rfl] at this; omega
section NR
variable {l : Launch} {D : va_G} {tys : List (ClassId × FieldType)} {z0 : Nat} {A : Nat → Prop} {σ0 : Type} {pic0 : σ0 → Heap → Prop} {cI cJ : ClassId} {ad al : Nat → Nat} {y0 : σ0} {X : Nat → Nat → Int32} {Y : Nat → Nat → Int64} {sep rnum : Int32} {r : List Int32} {rs : RR} {k9 : Nat}
set_option maxRecDepth 100000 in
set_option maxHeartbeats 8000000 in
theorem n_row (ht1 : tys[1]? = some (cI, .int)) (ht6 : tys[6]? = some (cJ, .long)) (hR : nT 0 X r) (hok : oks r) (hg : X 5 0 = sep) (hk9 : k9 ≤ 12) (hrs : nRws X Y rs) (hor : okR rs) (hnd : ndR rs) : ct D tys z0 A (picN pic0 cI cJ ad al A) l yL_row wsL_row (rmL 2 49) [.ref (ad 0), .ref (ad 5), .ref (al 1), .ref (al 2), .int (nI k9)] (y0, X, Y) (qI (picN pic0 cI cJ ad al A) A (fun q x => x = (y0, X, Y) ∧ q = if fnd rs (fld sep r k9) < rs.length then nI (fnd rs (fld sep r k9)) else -1)) := by
  have hs := eS sep r k9
  have h60 := hR.2.1
  have hto := oks_fld sep hok k9
  have htl : (fld sep r k9).length ≤ 60 := by rw [str_len hs]; have := hs.2.1; omega
  obtain ⟨t, ht⟩ : ∃ t, fld sep r k9 = t := ⟨_, rfl⟩
  rw [ht] at hs hto htl ⊢
  obtain ⟨g4, g20, grs⟩ := hrs
  refine ct_of RL (by decide +kernel) rfl rfl (Nat.le_of_ble_eq_true rfl) ?_
  intro p e s m below meth c C hr hm
  refine v_lv (lv' := [(0, _), (1, _), (2, _), (3, _), (4, _)]) rfl ?_
  refine v_aload_n C dL_row_0 (j := 0) rfl rfl ?_
  refine v_aload_n C dL_row_1 (j := 1) rfl rfl ?_
  refine v_iload C dL_row_2 (j := 4) rfl ?_
  refine v_iconst C dL_row_4 (v := 0) (by decide) ?_
  refine v_ci (v_runS C (n_edB ht1 hR hg hk9) (va_cwS 4 C.1.2.2.2.2 gL_row_L_edge rfl rfl rfl (by decide +kernel) ⟨Nat.le_of_ble_eq_true rfl, Nat.le_of_ble_eq_true rfl⟩) rfl dL_row_5 (rest := []) (Nat.le_of_ble_eq_true rfl) rfl ⟨(by first | exact Nat.le_of_ble_eq_true rfl | (dsimp only; omega)), (by first | exact Nat.le_of_ble_eq_true rfl | (dsimp only; omega))⟩) (fun q x' hx' => ?_)
  obtain ⟨rfl, rfl⟩ := hx'
  refine v_istore C dL_row_8 (by decide) (lv' := [(5, _), (0, _), (1, _), (2, _), (3, _), (4, _)]) rfl ?_
  refine v_aload_n C dL_row_10 (j := 1) rfl rfl ?_
  refine v_aload_n C dL_row_11 (j := 2) rfl rfl ?_
  refine v_iload C dL_row_12 (j := 5) rfl ?_
  refine v_iconst C dL_row_14 (v := 1) (by decide) ?_
  refine v_ci (v_runS C (n_edE ht1 hR hg hk9) (va_cwS 4 C.1.2.2.2.2 gL_row_L_edge rfl rfl rfl (by decide +kernel) ⟨Nat.le_of_ble_eq_true rfl, Nat.le_of_ble_eq_true rfl⟩) rfl dL_row_15 (rest := []) (Nat.le_of_ble_eq_true rfl) rfl ⟨(by first | exact Nat.le_of_ble_eq_true rfl | (dsimp only; omega)), (by first | exact Nat.le_of_ble_eq_true rfl | (dsimp only; omega))⟩) (fun q x' hx' => ?_)
  obtain ⟨rfl, rfl⟩ := hx'
  refine v_istore C dL_row_18 (by decide) (lv' := [(6, _), (5, _), (0, _), (1, _), (2, _), (3, _), (4, _)]) rfl ?_
  refine v_iconst C dL_row_20 (v := (-1)) (by decide) ?_
  refine v_istore C dL_row_21 (by decide) (lv' := [(7, _), (6, _), (5, _), (0, _), (1, _), (2, _), (3, _), (4, _)]) rfl ?_
  refine v_iconst C dL_row_23 (v := 0) (by decide) ?_
  refine v_istore C dL_row_24 (by decide) (lv' := [(8, _), (7, _), (6, _), (5, _), (0, _), (1, _), (2, _), (3, _), (4, _)]) rfl ?_
  obtain ⟨k, hk, hkl⟩ : ∃ k : Nat, k = 0 ∧ k ≤ rs.length := ⟨0, rfl, Nat.zero_le _⟩
  refine v_lv (lv' := [(8, .int (nI k)), (7, .int (foF rs k t)), (6, _), (5, _), (0, _), (1, _), (2, _), (3, _), (4, _)]) (by rw [hk]; rfl) ?_
  clear hk
  induction hd : (rs.length - k) using Nat.strongRecOn generalizing k with | _ d ih =>
    refine v_iload C dL_row_26 (j := 0) rfl ?_
    refine v_aload_n C dL_row_28 (j := 5) rfl rfl ?_
    refine v_iconst C dL_row_29 (v := 4) (by decide) ?_
    refine v_iald C dL_row_30 1 ht1 N_g (by unfold vp_in; decide) ?_
    refine v_int (b := nI rs.length) g4 ?_
    refine v_icmp_ge C 108 dL_row_31 (by decide) (fun c1 => ?_) (fun c1 => ?_)
    · skip
      have c2 : k = rs.length := by have := le_of c1 (by omega) (by omega); omega
      refine v_iload C dL_row_108 (j := 1) rfl ?_
      exact v_ireturn C dL_row_110 hr (rfl) (Nat.le_of_ble_eq_true rfl) (Nat.le_of_ble_eq_true rfl) (⟨rfl, by rw [c2, foF_all]⟩)
    · skip
      have c2 : k < rs.length := lt_ofn c1 (by omega) (by omega)
      obtain ⟨hno, hnl⟩ := hor k c2
      obtain ⟨-, hkw⟩ := grs k c2
      obtain ⟨nm, hnm⟩ : ∃ nm, nm = (rs.getD k ([], 0)).1 := ⟨_, rfl⟩
      rw [← hnm] at hno hnl hkw
      refine v_iconst C dL_row_34 (v := 1) (by decide) ?_
      refine v_istore C dL_row_35 (by decide) (lv' := [(9, _), (8, _), (7, _), (6, _), (5, _), (0, _), (1, _), (2, _), (3, _), (4, _)]) rfl ?_
      refine v_iconst C dL_row_37 (v := 0) (by decide) ?_
      refine v_istore C dL_row_38 (by decide) (lv' := [(10, _), (9, _), (8, _), (7, _), (6, _), (5, _), (0, _), (1, _), (2, _), (3, _), (4, _)]) rfl ?_
      obtain ⟨i, g, hi, hg0, hq, hi6⟩ : ∃ (i : Nat) (g : Bool), i = 0 ∧ g = true ∧ (g = true ↔ ∀ w, w < i → wrd nm w = wrd t w) ∧ i ≤ 6 := ⟨0, true, rfl, rfl, ⟨fun _ w hw => absurd hw (Nat.not_lt_zero w), fun _ => rfl⟩, by decide⟩
      refine v_lv (lv' := [(10, .int (nI i)), (9, .int (bI g)), (8, _), (7, _), (6, _), (5, _), (0, _), (1, _), (2, _), (3, _), (4, _)]) (by rw [hi, hg0]; rfl) ?_
      clear hi hg0
      induction hd2 : (6 - i) using Nat.strongRecOn generalizing i g with | _ d2 ih2 =>
        refine v_cut0 (pcj := 88) (lvj := [(9, .int (bI g)), (8, .int (nI k)), (7, .int (foF rs k t)), (6, .int (nI (eE sep r k9))), (5, .int (nI (eB sep r k9))), (0, .ref (ad 0)), (1, .ref (ad 5)), (2, .ref (al 1)), (3, .ref (al 2)), (4, .int (nI k9))]) (stj := []) (g = decide (nm = t)) (fun hw => ?_) (fun K => ?_)
        · skip
          subst hw
          refine v_iload C dL_row_88 (j := 0) rfl ?_
          refine v_cut (pcj := 100) (lvj := [(9, .int (bI (decide (nm = t)))), (8, .int (nI k)), (7, .int (foF rs k t)), (6, .int (nI (eE sep r k9))), (5, .int (nI (eB sep r k9))), (0, .ref (ad 0)), (1, .ref (ad 5)), (2, .ref (al 1)), (3, .ref (al 2)), (4, .int (nI k9))]) (stj := []) (fun w => w = foF rs (k + 1) t) (fun w hw => ?_) (fun K => ?_)
          · skip
            subst hw
            refine v_istore C dL_row_100 (by decide) (lv' := [(7, _), (9, _), (8, _), (6, _), (5, _), (0, _), (1, _), (2, _), (3, _), (4, _)]) rfl ?_
            refine v_iinc C dL_row_102 (j := 2) (v := _ + 1) rfl rfl (by decide) (lv' := [(8, _), (7, _), (9, _), (6, _), (5, _), (0, _), (1, _), (2, _), (3, _), (4, _)]) rfl ?_
            refine v_goto C 26 dL_row_105 (by decide) ?_
            rw [nI_1]
            exact v_sub [0, 1, 3, 4, 5, 6, 7, 8, 9] rfl (ih (rs.length - (k + 1)) (by omega) (k + 1) (by omega) rfl)
          · skip
            refine v_if_eq C 98 dL_row_90 (by decide) (fun c3 => ?_) (fun c3 => ?_)
            · skip
              refine v_iload C dL_row_98 (j := 2) rfl ?_
              exact K _ (by rw [foF_step c2 hnd, ← hnm, if_neg (of_decide_eq_false (bI_0 c3))])
            · skip
              refine v_iload C dL_row_93 (j := 1) rfl ?_
              refine v_goto C 100 dL_row_95 (by decide) ?_
              exact K _ (by rw [foF_step c2 hnd, ← hnm, if_pos (of_decide_eq_true (bI_1 c3))])
        · skip
          refine v_iload C dL_row_40 (j := 0) rfl ?_
          refine v_bipush C dL_row_42 (v := 6) (by decide) ?_
          refine v_icmp_ge C 88 dL_row_44 (by decide) (fun c3 => ?_) (fun c3 => ?_)
          · skip
            have c4 : i = 6 := by have := le_of (a := 6) c3 (by decide) (by omega); omega
            exact v_sub [1, 2, 3, 4, 5, 6, 7, 8, 9, 10] rfl (K (by rw [Bool.eq_iff_iff, decide_eq_true_eq]; exact ⟨fun z => wrd_inj hno hto hnl htl (by rw [← c4]; exact hq.mp z), fun z => hq.mpr (fun w _ => by rw [z])⟩))
          · skip
            have c4 : i < 6 := lt_ofn (a := 6) c3 (by decide) (by omega)
            refine v_iload C dL_row_47 (j := 1) rfl ?_
            refine v_if_eq C 88 dL_row_49 (by decide) (fun c5 => ?_) (fun c5 => ?_)
            · skip
              exact v_sub [1, 2, 3, 4, 5, 6, 7, 8, 9, 10] rfl (K (by rw [bI_0 c5] at hq ⊢; exact (decide_eq_false (fun z => by have := hq.mpr (fun w _ => by rw [z]); cases this)).symm))
            · skip
              have hg1 := bI_1 c5
              refine v_aload_n C dL_row_52 (j := 8) rfl rfl ?_
              refine v_aload_n C dL_row_53 (j := 9) rfl rfl ?_
              refine v_iload C dL_row_54 (j := 2) rfl ?_
              refine v_iload C dL_row_56 (j := 0) rfl ?_
              refine v_cl (v_runS C (n_get ht6 (i := k) (w := i) (by omega) c4) (va_cwS 4 C.1.2.2.2.2 gL_row_L_get rfl rfl rfl (by decide +kernel) ⟨Nat.le_of_ble_eq_true rfl, Nat.le_of_ble_eq_true rfl⟩) rfl dL_row_58 (rest := []) (Nat.le_of_ble_eq_true rfl) rfl ⟨(by first | exact Nat.le_of_ble_eq_true rfl | (dsimp only; omega)), (by first | exact Nat.le_of_ble_eq_true rfl | (dsimp only; omega))⟩) (fun q x' hx' => ?_)
              obtain ⟨rfl, rfl⟩ := hx'
              rw [hkw i c4]
              refine v_aload_n C dL_row_61 (j := 6) rfl rfl ?_
              refine v_iload C dL_row_62 (j := 5) rfl ?_
              refine v_iload C dL_row_64 (j := 4) rfl ?_
              refine v_iload C dL_row_66 (j := 0) rfl ?_
              refine v_cl (v_runS C (n_word ht1 hR hs c4) (va_cwS 4 C.1.2.2.2.2 gL_row_L_word rfl rfl rfl (by decide +kernel) ⟨Nat.le_of_ble_eq_true rfl, Nat.le_of_ble_eq_true rfl⟩) rfl dL_row_68 (rest := [_]) (Nat.le_of_ble_eq_true rfl) rfl ⟨(by first | exact Nat.le_of_ble_eq_true rfl | (dsimp only; omega)), (by first | exact Nat.le_of_ble_eq_true rfl | (dsimp only; omega))⟩) (fun q x' hx' => ?_)
              obtain ⟨rfl, rfl⟩ := hx'
              refine v_cut (pcj := 80) (lvj := [(10, .int (nI i)), (9, .int (bI g)), (8, .int (nI k)), (7, .int (foF rs k t)), (6, .int (nI (eE sep r k9))), (5, .int (nI (eB sep r k9))), (0, .ref (ad 0)), (1, .ref (ad 5)), (2, .ref (al 1)), (3, .ref (al 2)), (4, .int (nI k9))]) (stj := []) (fun w => w = bI (decide (wrd nm i = wrd t i))) (fun w hw => ?_) (fun K => ?_)
              · skip
                subst hw
                refine v_istore C dL_row_80 (by decide) (lv' := [(9, _), (10, _), (8, _), (7, _), (6, _), (5, _), (0, _), (1, _), (2, _), (3, _), (4, _)]) rfl ?_
                refine v_iinc C dL_row_82 (j := 1) (v := _ + 1) rfl rfl (by decide) (lv' := [(10, _), (9, _), (8, _), (7, _), (6, _), (5, _), (0, _), (1, _), (2, _), (3, _), (4, _)]) rfl ?_
                refine v_goto C 40 dL_row_85 (by decide) ?_
                rw [nI_1]
                refine ih2 (6 - (i + 1)) (by omega) (i + 1) (decide (wrd nm i = wrd t i)) ?_ (by omega) rfl
                rw [decide_eq_true_eq]
                exact ⟨fun z w hw => by
                  by_cases hwi : w = i
                  · rw [hwi]; exact z
                  · exact hq.mp hg1 w (by omega), fun z => z i (by omega)⟩
              · skip
                refine v_lcmp C dL_row_71 ?_
                refine v_if_ne C 79 dL_row_72 (by decide) (fun c6 => ?_) (fun c6 => ?_)
                · skip
                  refine v_iconst C dL_row_79 (v := 0) (by decide) ?_
                  exact K _ (bI_f (decide_eq_false (fun z => c6 ((lc_eq _ _).mpr z))))
                · skip
                  refine v_iconst C dL_row_75 (v := 1) (by decide) ?_
                  refine v_goto C 80 dL_row_76 (by decide) ?_
                  exact K _ (bI_t (decide_eq_true ((lc_eq _ _).mp c6)))
set_option maxRecDepth 100000 in
set_option maxHeartbeats 8000000 in
theorem n_grows (ht1 : tys[1]? = some (cI, .int)) (ht6 : tys[6]? = some (cJ, .long)) (hR : nT 0 X r) (hok : oks r) (hg : X 5 0 = sep) (hk9 : k9 ≤ 12) (hrs : nRws X Y rs) (hor : okR rs) (hnd : ndR rs) (z : Int32) : ct D tys z0 A (picN pic0 cI cJ ad al A) l yL_grows wsL_grows (rmL 3 79) [.ref (ad 0), .ref (ad 5), .ref (ad 6), .ref (al 1), .ref (al 2), .int (nI k9), .int z] (y0, X, Y) (qV (picN pic0 cI cJ ad al A) A (fun x => ∃ X' Y', x = (y0, X', Y') ∧ nRws X' Y' (growR rs (fld sep r k9) z) ∧ X' 5 2 = X 5 2 + growF rs (fld sep r k9) z ∧ (∀ j, j ≠ 2 → j ≠ 4 → X' 5 j = X 5 j) ∧ ich [5, 6] X X' ∧ ∀ j, j ≠ 1 → j ≠ 2 → Y' j = Y j)) := by
  have hs := eS sep r k9
  obtain ⟨t, ht⟩ : ∃ t, fld sep r k9 = t := ⟨_, rfl⟩
  have hrs2 := hrs
  obtain ⟨g4, g20, grs⟩ := hrs2
  have hfl := fnd_le rs t
  refine ct_of RL (by decide +kernel) rfl rfl (Nat.le_of_ble_eq_true rfl) ?_
  intro p e s m below meth c C hr hm
  refine v_lv (lv' := [(0, _), (1, _), (2, _), (3, _), (4, _), (5, _), (6, _)]) rfl ?_
  refine v_aload_n C dL_grows_0 (j := 0) rfl rfl ?_
  refine v_aload_n C dL_grows_1 (j := 1) rfl rfl ?_
  refine v_aload_n C dL_grows_2 (j := 3) rfl rfl ?_
  refine v_aload C dL_grows_3 (j := 4) rfl ?_
  refine v_iload C dL_grows_5 (j := 5) rfl ?_
  refine v_ci (v_runS C (n_row ht1 ht6 hR hok hg hk9 hrs hor hnd) (va_cwS 5 C.1.2.2.2.2 gL_grows_L_row rfl rfl rfl (by decide +kernel) ⟨Nat.le_of_ble_eq_true rfl, Nat.le_of_ble_eq_true rfl⟩) rfl dL_grows_7 (rest := []) (Nat.le_of_ble_eq_true rfl) rfl ⟨(by first | exact Nat.le_of_ble_eq_true rfl | (dsimp only; omega)), (by first | exact Nat.le_of_ble_eq_true rfl | (dsimp only; omega))⟩) (fun q x' hx' => ?_)
  obtain ⟨rfl, rfl⟩ := hx'
  rw [ht] at hs ⊢
  refine v_istore C dL_grows_10 (by decide) (lv' := [(7, _), (0, _), (1, _), (2, _), (3, _), (4, _), (5, _), (6, _)]) rfl ?_
  refine v_cutX (pcj := 90) (fun w : (Nat → Nat → Int32) × (Nat → Nat → Int64) => (y0, w.1, w.2)) (fun _ => [(7, .int (nI (fnd rs t))), (0, .ref (ad 0)), (1, .ref (ad 5)), (2, .ref (ad 6)), (6, .int z)]) (fun _ => []) (fun w => fnd rs t < 20 ∧ nRws w.1 w.2 (grwF rs t) ∧ (∀ j, j ≠ 4 → w.1 5 j = X 5 j) ∧ ich [5, 6] X w.1 ∧ (∀ j, j ≠ 1 → j ≠ 2 → w.2 j = Y j) ∧ ((grwF rs t).getD (fnd rs t) ([], 0)).1 = t) (fun w hw => ?_) (fun K => ?_)
  · skip
    obtain ⟨X1, Y1⟩ := w
    obtain ⟨w1, w2, w3, w4, w5, w6⟩ := hw
    dsimp only at w2 w3 w4 w5
    have hgl := grw_len rs t
    refine v_iload C dL_grows_90 (j := 0) rfl ?_
    refine v_if_lt C 112 dL_grows_92 (by decide) (fun c1 => absurd c1 (nI_pos (by omega))) (fun c1 => ?_)
    refine v_aload_n C dL_grows_95 (j := 3) rfl rfl ?_
    refine v_iload C dL_grows_96 (j := 0) rfl ?_
    refine v_aload_n C dL_grows_98 (j := 2) rfl rfl ?_
    refine v_aload_n C dL_grows_99 (j := 3) rfl rfl ?_
    refine v_iload C dL_grows_100 (j := 0) rfl ?_
    refine v_iald C dL_grows_102 1 ht1 N_m (vp_in_nI (by show fnd rs t < 21; omega) (by decide)) ?_
    refine v_int (b := sumAt rs t) (by rw [nI_clamp (by omega)]; exact (w2.2.2 _ hgl.1).1) ?_
    refine v_i2l C dL_grows_103 ?_
    refine v_iload C dL_grows_104 (j := 4) rfl ?_
    refine v_i2l C dL_grows_106 ?_
    refine v_ladd C dL_grows_107 ?_
    refine v_ci (v_runS C (n_fits ht1 ((sumAt rs t).toInt64 + z.toInt64)) (va_cwS 2 C.1.2.2.2.2 gL_grows_L_fits rfl rfl rfl (by decide +kernel) ⟨Nat.le_of_ble_eq_true rfl, Nat.le_of_ble_eq_true rfl⟩) rfl dL_grows_108 (rest := [_, _]) (Nat.le_of_ble_eq_true rfl) rfl ⟨(by first | exact Nat.le_of_ble_eq_true rfl | (dsimp only; omega)), (by first | exact Nat.le_of_ble_eq_true rfl | (dsimp only; omega))⟩) (fun q x' hx' => ?_)
    obtain ⟨rfl, rfl⟩ := hx'
    refine v_iast C dL_grows_111 1 ht1 (vp_in_nI (by show fnd rs t < 21; omega) (by decide)) (N_sm _) ?_
    rw [nI_clamp (by omega)]
    exact v_return C dL_grows_112 hr (Nat.le_of_ble_eq_true rfl) (Nat.le_of_ble_eq_true rfl) (⟨_, Y1, rfl, by unfold growR; rw [if_neg (by omega)]; exact nRws_set w2 hgl.1 w6 (by rw [va_up_other _ _ _ (by decide), va_up_same]; unfold upd; rw [if_neg (by decide)]) (by rw [va_up_same, va_up_other _ _ _ (by decide)]), by unfold growF; rw [if_neg (by omega), va_up_other _ _ _ (by decide), va_up_same]; dsimp only; rw [w3 2 (by decide)]; unfold upd; rw [if_pos rfl], fun j j1 j2 => by rw [va_up_other _ _ _ (by decide), va_up_same]; unfold upd; rw [if_neg j1]; exact w3 j j2, w4.tr ((ich_u (by decide) _).tr (ich_u (by decide) _)), w5⟩)
  · skip
    by_cases hf : fnd rs t < rs.length
    · skip
      rw [if_pos hf]
      refine v_iload C dL_grows_12 (j := 0) rfl ?_
      refine v_if_ge C 90 dL_grows_14 (by decide) (fun c1 => ?_) (fun c1 => ?_)
      · skip
        have e0 : grwF rs t = rs := if_neg (by omega)
        exact v_sub [0, 1, 2, 3, 7] rfl (K (X, Y) ⟨by omega, by rw [e0]; exact hrs, fun _ _ => rfl, ich.rf, fun _ _ _ => rfl, by rw [e0]; exact fnd_name rs t hf⟩)
      · skip
        exact absurd (nI_pos' (by omega)) c1
    · skip
      have hfe : fnd rs t = rs.length := by omega
      rw [if_neg hf]
      refine v_iload C dL_grows_12 (j := 0) rfl ?_
      refine v_if_ge C 90 dL_grows_14 (by decide) (fun c1 => absurd c1 (by decide)) (fun c1 => ?_)
      refine v_aload_n C dL_grows_17 (j := 2) rfl rfl ?_
      refine v_iconst C dL_grows_18 (v := 4) (by decide) ?_
      refine v_iald C dL_grows_19 1 ht1 N_g (by unfold vp_in; decide) ?_
      refine v_int (b := nI rs.length) g4 ?_
      refine v_bipush C dL_grows_20 (v := 20) (by decide) ?_
      refine v_icmp_ge C 90 dL_grows_22 (by decide) (fun c2 => ?_) (fun c2 => ?_)
      · skip
        have c3 : rs.length = 20 := by have := le_of (a := 20) c2 (by decide) (by omega); omega
        refine v_iload C dL_grows_90 (j := 0) rfl ?_
        refine v_if_lt C 112 dL_grows_92 (by decide) (fun c4 => ?_) (fun c4 => absurd c4 (fun q => q (by decide)))
        exact v_return C dL_grows_112 hr (Nat.le_of_ble_eq_true rfl) (Nat.le_of_ble_eq_true rfl) (⟨X, Y, rfl, by unfold growR; rw [if_pos (by omega)]; exact hrs, by unfold growF; rw [if_pos (by omega), Int32.add_zero], fun _ _ _ => rfl, ich.rf, fun _ _ _ => rfl⟩)
      · skip
        have c3 : rs.length < 20 := lt_ofn (a := 20) c2 (by decide) (by omega)
        refine v_aload_n C dL_grows_25 (j := 2) rfl rfl ?_
        refine v_iconst C dL_grows_26 (v := 4) (by decide) ?_
        refine v_iald C dL_grows_27 1 ht1 N_g (by unfold vp_in; decide) ?_
        refine v_int (b := nI rs.length) g4 ?_
        refine v_istore C dL_grows_28 (by decide) (lv' := [(7, _), (0, _), (1, _), (2, _), (3, _), (4, _), (5, _), (6, _)]) rfl ?_
        refine v_iconst C dL_grows_30 (v := 0) (by decide) ?_
        refine v_istore C dL_grows_31 (by decide) (lv' := [(8, _), (7, _), (0, _), (1, _), (2, _), (3, _), (4, _), (5, _), (6, _)]) rfl ?_
        obtain ⟨i, Y1, hi, e1, hc, hkold, hknew, hi6⟩ : ∃ (i : Nat) (Y1 : Nat → Nat → Int64), i = 0 ∧ Y1 = Y ∧ (∀ j, j ≠ 1 → j ≠ 2 → Y1 j = Y j) ∧ (∀ a w, a < rs.length → w < 6 → kkw Y1 a w = kkw Y a w) ∧ (∀ w, w < i → kkw Y1 rs.length w = wrd t w) ∧ i ≤ 6 := ⟨0, Y, rfl, rfl, fun _ _ _ => rfl, fun _ _ _ _ => rfl, fun w hw => absurd hw (Nat.not_lt_zero w), by decide⟩
        refine v_x (x' := (y0, X, Y1)) (fun H hP => by rw [e1]; exact hP) ?_
        refine v_lv (lv' := [(8, .int (nI i)), (7, _), (0, _), (1, _), (2, _), (3, _), (4, _), (5, _), (6, _)]) (by rw [hi]; rfl) ?_
        clear hi e1
        induction hd : (6 - i) using Nat.strongRecOn generalizing i Y1 with | _ d ih =>
          refine v_iload C dL_grows_33 (j := 0) rfl ?_
          refine v_bipush C dL_grows_35 (v := 6) (by decide) ?_
          refine v_icmp_ge C 78 dL_grows_37 (by decide) (fun c4 => ?_) (fun c4 => ?_)
          · skip
            have c5 : i = 6 := by have := le_of (a := 6) c4 (by decide) (by omega); omega
            refine v_aload_n C dL_grows_78 (j := 4) rfl rfl ?_
            refine v_iload C dL_grows_79 (j := 1) rfl ?_
            refine v_iconst C dL_grows_81 (v := 0) (by decide) ?_
            refine v_iast C dL_grows_82 1 ht1 (vp_in_nI (by show rs.length < 21; omega) (by decide)) (N_sm _) ?_
            rw [nI_clamp (by omega)]
            refine v_aload_n C dL_grows_83 (j := 3) rfl rfl ?_
            refine v_iconst C dL_grows_84 (v := 4) (by decide) ?_
            refine v_dup2 C dL_grows_85 rfl rfl ?_
            refine v_iald C dL_grows_86 1 ht1 N_g (by unfold vp_in; decide) ?_
            refine v_int (b := nI rs.length) (by rw [va_up_other _ _ _ (by decide)]; exact g4) ?_
            refine v_iconst C dL_grows_87 (v := 1) (by decide) ?_
            refine v_iadd C dL_grows_88 ?_
            rw [nI_1]
            refine v_iast C dL_grows_89 1 ht1 (by unfold vp_in; decide) (N_sg _) ?_
            have e0 : grwF rs t = rs ++ [(t, 0)] := if_pos hfe
            obtain ⟨X2, hX2, x4, xo, x6, xc⟩ : ∃ X2, X2 = va_up (va_up X 6 (upd (X 6) rs.length 0)) 5 (upd (va_up X 6 (upd (X 6) rs.length 0) 5) (4 : Int32).toNatClampNeg (nI (rs.length + 1))) ∧ X2 5 4 = nI (rs.length + 1) ∧ (∀ j, j ≠ 4 → X2 5 j = X 5 j) ∧ X2 6 = upd (X 6) rs.length 0 ∧ ich [5, 6] X X2 := ⟨_, rfl, by rw [va_up_same]; rfl, fun j hj => by rw [va_up_same, va_up_other _ _ _ (by decide)]; exact if_neg hj, by rw [va_up_other _ _ _ (by decide), va_up_same], (ich_u (by decide) _).tr (ich_u (by decide) _)⟩
            rw [← hX2]
            clear hX2
            refine v_sub (lv' := [(7, .int (nI (fnd rs t))), (0, .ref (ad 0)), (1, .ref (ad 5)), (2, .ref (ad 6)), (6, .int z)]) [1, 2, 3, 4, 8] (by rw [hfe]; rfl) ?_
            refine K (X2, Y1) ⟨by omega, ?_, xo, xc, hc, ?_⟩
            · rw [e0]
              exact nRws_new hrs c3 x4 (fun a ha => by dsimp only; rw [x6]; unfold upd; rw [if_neg (by omega)]) (by dsimp only; rw [x6]; unfold upd; rw [if_pos rfl]) (fun a w ha hw => hkold a w ha hw) (fun w hw => hknew w (by omega))
            · rw [e0, hfe, getD_app2]
          · skip
            have c5 : i < 6 := lt_ofn (a := 6) c4 (by decide) (by omega)
            refine v_aload_n C dL_grows_40 (j := 5) rfl rfl ?_
            refine v_aload C dL_grows_41 (j := 6) rfl ?_
            refine v_iload C dL_grows_43 (j := 1) rfl ?_
            refine v_iload C dL_grows_45 (j := 0) rfl ?_
            refine v_aload_n C dL_grows_47 (j := 2) rfl rfl ?_
            refine v_aload_n C dL_grows_48 (j := 2) rfl rfl ?_
            refine v_aload_n C dL_grows_49 (j := 3) rfl rfl ?_
            refine v_iload C dL_grows_50 (j := 7) rfl ?_
            refine v_iconst C dL_grows_52 (v := 0) (by decide) ?_
            refine v_ci (v_runS C (n_edB ht1 hR hg hk9) (va_cwS 4 C.1.2.2.2.2 gL_grows_L_edge rfl rfl rfl (by decide +kernel) ⟨Nat.le_of_ble_eq_true rfl, Nat.le_of_ble_eq_true rfl⟩) rfl dL_grows_53 (rest := [_, _, _, _, _]) (Nat.le_of_ble_eq_true rfl) rfl ⟨(by first | exact Nat.le_of_ble_eq_true rfl | (dsimp only; omega)), (by first | exact Nat.le_of_ble_eq_true rfl | (dsimp only; omega))⟩) (fun q x' hx' => ?_)
            obtain ⟨rfl, rfl⟩ := hx'
            refine v_aload_n C dL_grows_56 (j := 2) rfl rfl ?_
            refine v_aload_n C dL_grows_57 (j := 3) rfl rfl ?_
            refine v_iload C dL_grows_58 (j := 7) rfl ?_
            refine v_iconst C dL_grows_60 (v := 1) (by decide) ?_
            refine v_ci (v_runS C (n_edE ht1 hR hg hk9) (va_cwS 4 C.1.2.2.2.2 gL_grows_L_edge rfl rfl rfl (by decide +kernel) ⟨Nat.le_of_ble_eq_true rfl, Nat.le_of_ble_eq_true rfl⟩) rfl dL_grows_61 (rest := [_, _, _, _, _, _]) (Nat.le_of_ble_eq_true rfl) rfl ⟨(by first | exact Nat.le_of_ble_eq_true rfl | (dsimp only; omega)), (by first | exact Nat.le_of_ble_eq_true rfl | (dsimp only; omega))⟩) (fun q x' hx' => ?_)
            obtain ⟨rfl, rfl⟩ := hx'
            refine v_iload C dL_grows_64 (j := 0) rfl ?_
            refine v_cl (v_runS C (n_word ht1 hR hs c5) (va_cwS 4 C.1.2.2.2.2 gL_grows_L_word rfl rfl rfl (by decide +kernel) ⟨Nat.le_of_ble_eq_true rfl, Nat.le_of_ble_eq_true rfl⟩) rfl dL_grows_66 (rest := [_, _, _, _]) (Nat.le_of_ble_eq_true rfl) rfl ⟨(by first | exact Nat.le_of_ble_eq_true rfl | (dsimp only; omega)), (by first | exact Nat.le_of_ble_eq_true rfl | (dsimp only; omega))⟩) (fun q x' hx' => ?_)
            obtain ⟨rfl, rfl⟩ := hx'
            refine v_cv (v_runS C (n_put ht6 (i := rs.length) (w := i) c3 c5 (wrd t i)) (va_cwS 5 C.1.2.2.2.2 gL_grows_L_put rfl rfl rfl (by decide +kernel) ⟨Nat.le_of_ble_eq_true rfl, Nat.le_of_ble_eq_true rfl⟩) rfl dL_grows_69 (rest := []) (Nat.le_of_ble_eq_true rfl) rfl ⟨(by first | exact Nat.le_of_ble_eq_true rfl | (dsimp only; omega)), (by first | exact Nat.le_of_ble_eq_true rfl | (dsimp only; omega))⟩) (fun x' hx' => ?_)
            obtain ⟨Y2, rfl, p1, p2, p3⟩ := hx'
            refine v_iinc C dL_grows_72 (j := 0) (v := _ + 1) rfl rfl (by decide) (lv' := [(8, _), (7, _), (0, _), (1, _), (2, _), (3, _), (4, _), (5, _), (6, _)]) rfl ?_
            refine v_goto C 33 dL_grows_75 (by decide) ?_
            rw [nI_1]
            refine ih (6 - (i + 1)) (by omega) (i + 1) Y2 (fun j j1 j2 => (p3 j j1 j2).trans (hc j j1 j2)) (fun a w ha hw => by rw [p2 a w (by omega) hw (Or.inl (by omega))]; exact hkold a w ha hw) (fun w hw => ?_) (by omega) rfl
            by_cases hwi : w = i
            · rw [hwi]; exact p1
            · rw [p2 rs.length w c3 (by omega) (Or.inr hwi)]
              exact hknew w (by omega)
set_option maxRecDepth 100000 in
set_option maxHeartbeats 8000000 in
theorem n_drops (ht1 : tys[1]? = some (cI, .int)) (ht6 : tys[6]? = some (cJ, .long)) (hR : nT 0 X r) (hok : oks r) (hg : X 5 0 = sep) (hk9 : k9 ≤ 12) (hrs : nRws X Y rs) (hor : okR rs) (hnd : ndR rs) : ct D tys z0 A (picN pic0 cI cJ ad al A) l yL_drops wsL_drops (rmL 3 79) [.ref (ad 0), .ref (ad 5), .ref (ad 6), .ref (al 1), .ref (al 2), .int (nI k9)] (y0, X, Y) (qV (picN pic0 cI cJ ad al A) A (fun x => ∃ X' Y', x = (y0, X', Y') ∧ nRws X' Y' (dropR rs (fld sep r k9)) ∧ (∀ j, j ≠ 4 → X' 5 j = X 5 j) ∧ ich [5, 6] X X' ∧ ∀ j, j ≠ 1 → j ≠ 2 → Y' j = Y j)) := by
  obtain ⟨t, ht⟩ : ∃ t, fld sep r k9 = t := ⟨_, rfl⟩
  have hrs2 := hrs
  obtain ⟨g4, g20, grs⟩ := hrs2
  have hfl := fnd_le rs t
  refine ct_of RL (by decide +kernel) rfl rfl (Nat.le_of_ble_eq_true rfl) ?_
  intro p e s m below meth c C hr hm
  refine v_lv (lv' := [(0, _), (1, _), (2, _), (3, _), (4, _), (5, _)]) rfl ?_
  refine v_aload_n C dL_drops_0 (j := 0) rfl rfl ?_
  refine v_aload_n C dL_drops_1 (j := 1) rfl rfl ?_
  refine v_aload_n C dL_drops_2 (j := 3) rfl rfl ?_
  refine v_aload C dL_drops_3 (j := 4) rfl ?_
  refine v_iload C dL_drops_5 (j := 5) rfl ?_
  refine v_ci (v_runS C (n_row ht1 ht6 hR hok hg hk9 hrs hor hnd) (va_cwS 5 C.1.2.2.2.2 gL_drops_L_row rfl rfl rfl (by decide +kernel) ⟨Nat.le_of_ble_eq_true rfl, Nat.le_of_ble_eq_true rfl⟩) rfl dL_drops_7 (rest := []) (Nat.le_of_ble_eq_true rfl) rfl ⟨(by first | exact Nat.le_of_ble_eq_true rfl | (dsimp only; omega)), (by first | exact Nat.le_of_ble_eq_true rfl | (dsimp only; omega))⟩) (fun q x' hx' => ?_)
  obtain ⟨rfl, rfl⟩ := hx'
  rw [ht]
  refine v_istore C dL_drops_10 (by decide) (lv' := [(6, _), (0, _), (1, _), (2, _), (3, _), (4, _), (5, _)]) rfl ?_
  refine v_aload_n C dL_drops_12 (j := 2) rfl rfl ?_
  refine v_iconst C dL_drops_13 (v := 4) (by decide) ?_
  refine v_dup2 C dL_drops_14 rfl rfl ?_
  refine v_iald C dL_drops_15 1 ht1 N_g (by unfold vp_in; decide) ?_
  refine v_int (b := nI rs.length) g4 ?_
  by_cases hf : fnd rs t < rs.length
  · skip
    rw [if_pos hf]
    refine v_iload C dL_drops_16 (j := 0) rfl ?_
    refine v_if_ge C 25 dL_drops_18 (by decide) (fun c1 => ?_) (fun c1 => absurd c1 (fun q => q (by rw [Int32.le_iff_toInt_le, nI_toInt (by omega)]; exact Int.natCast_nonneg _)))
    refine v_iconst C dL_drops_25 (v := 1) (by decide) ?_
    refine v_isub C dL_drops_26 ?_
    refine v_int (b := nI (rs.length - 1)) (nI_subN (by omega : 1 ≤ rs.length)) ?_
    refine v_iast C dL_drops_27 1 ht1 (by unfold vp_in; decide) (N_sg _) ?_
    obtain ⟨X1, hX1, x4, xo, x6, xc⟩ : ∃ X1, X1 = va_up X 5 (upd (X 5) (4 : Int32).toNatClampNeg (nI (rs.length - 1))) ∧ X1 5 4 = nI (rs.length - 1) ∧ (∀ j, j ≠ 4 → X1 5 j = X 5 j) ∧ X1 6 = X 6 ∧ ich [5, 6] X X1 := ⟨_, rfl, by rw [va_up_same]; rfl, fun j hj => by rw [va_up_same]; exact if_neg hj, va_up_other _ _ _ (by decide), ich_u (by decide) _⟩
    rw [← hX1]
    clear hX1
    refine v_iload C dL_drops_28 (j := 0) rfl ?_
    refine v_if_ge C 38 dL_drops_30 (by decide) (fun c2 => ?_) (fun c2 => absurd c2 (fun q => q (by rw [Int32.le_iff_toInt_le, nI_toInt (by omega)]; exact Int.natCast_nonneg _)))
    refine v_iload C dL_drops_38 (j := 0) rfl ?_
    refine v_istore C dL_drops_40 (by decide) (lv' := [(7, _), (6, _), (0, _), (1, _), (2, _), (3, _), (4, _), (5, _)]) rfl ?_
    obtain ⟨k, X2, Y1, hk, e1, e2, hc, hcY, hkl, hkl2, y4, h6, hkk⟩ : ∃ (k : Nat) (X2 : Nat → Nat → Int32) (Y1 : Nat → Nat → Int64), k = fnd rs t ∧ X2 = X1 ∧ Y1 = Y ∧ ich [6] X1 X2 ∧ (∀ j, j ≠ 1 → j ≠ 2 → Y1 j = Y j) ∧ fnd rs t ≤ k ∧ k ≤ rs.length - 1 ∧ X2 5 4 = nI (rs.length - 1) ∧ (∀ i, i < 21 → X2 6 i = X 6 (shk (fnd rs t) k i)) ∧ ∀ i w, i < 20 → w < 6 → kkw Y1 i w = kkw Y (shk (fnd rs t) k i) w := ⟨_, X1, Y, rfl, rfl, rfl, ich.rf, fun _ _ _ => rfl, Nat.le_refl _, by omega, x4, fun i _ => by unfold shk; rw [if_neg (by omega), x6], fun i w _ _ => by unfold shk; rw [if_neg (by omega)]⟩
    refine v_x (x' := (y0, X2, Y1)) (fun H hP => by rw [e1, e2]; exact hP) ?_
    refine v_lv (lv' := [(7, .int (nI k)), (6, _), (0, _), (1, _), (2, _), (3, _), (4, _), (5, _)]) (by rw [hk]) ?_
    clear hk e1 e2
    induction hd : (rs.length - k) using Nat.strongRecOn generalizing k X2 Y1 with | _ d ih =>
      refine v_iload C dL_drops_42 (j := 0) rfl ?_
      refine v_aload_n C dL_drops_44 (j := 3) rfl rfl ?_
      refine v_iconst C dL_drops_45 (v := 4) (by decide) ?_
      refine v_iald C dL_drops_46 1 ht1 N_g (by unfold vp_in; decide) ?_
      refine v_int (b := nI (rs.length - 1)) y4 ?_
      refine v_icmp_ge C 104 dL_drops_47 (by decide) (fun c3 => ?_) (fun c3 => ?_)
      · skip
        have c4 : k = rs.length - 1 := by have := le_of c3 (by omega) (by omega); omega
        exact v_return C dL_drops_104 hr (Nat.le_of_ble_eq_true rfl) (Nat.le_of_ble_eq_true rfl) (⟨X2, Y1, rfl, nRws_drop hrs hf y4 (fun i hi => by rw [h6 i (by omega), c4]) (fun i w hi hw => by rw [hkk i w (by omega) hw, c4]), fun j hj => by rw [hc 5 (by decide)]; exact xo j hj, xc.tr (hc.mo (by decide)), hcY⟩)
      · skip
        have c4 : k < rs.length - 1 := lt_ofn c3 (by omega) (by omega)
        have ek : shk (fnd rs t) k (k + 1) = k + 1 := by unfold shk; rw [if_neg (by omega)]
        refine v_aload_n C dL_drops_50 (j := 4) rfl rfl ?_
        refine v_iload C dL_drops_51 (j := 0) rfl ?_
        refine v_aload_n C dL_drops_53 (j := 4) rfl rfl ?_
        refine v_iload C dL_drops_54 (j := 0) rfl ?_
        refine v_iconst C dL_drops_56 (v := 1) (by decide) ?_
        refine v_iadd C dL_drops_57 ?_
        rw [nI_1]
        refine v_iald C dL_drops_58 1 ht1 N_m (vp_in_nI (by show k + 1 < 21; omega) (by decide)) ?_
        refine v_int (b := X 6 (k + 1)) (by rw [nI_clamp (by omega), h6 _ (by omega), ek]) ?_
        refine v_iast C dL_drops_59 1 ht1 (vp_in_nI (by show k < 21; omega) (by decide)) (N_sm _) ?_
        rw [nI_clamp (by omega)]
        obtain ⟨X3, hX3, z4, z6, zc⟩ : ∃ X3, X3 = va_up X2 6 (upd (X2 6) k (X 6 (k + 1))) ∧ X3 5 4 = nI (rs.length - 1) ∧ (∀ i, i < 21 → X3 6 i = X 6 (shk (fnd rs t) (k + 1) i)) ∧ ich [6] X1 X3 := ⟨_, rfl, by rw [va_up_other _ _ _ (by decide)]; exact y4, fun i hi => by
            rw [va_up_same]
            unfold upd
            by_cases hik : i = k
            · rw [if_pos hik, hik, shk_same hkl]
            · rw [if_neg hik, shk_next hik]; exact h6 i hi, hc.tr (ich_u (by decide) _)⟩
        rw [← hX3]
        clear hX3
        refine v_iconst C dL_drops_60 (v := 0) (by decide) ?_
        refine v_istore C dL_drops_61 (by decide) (lv' := [(8, _), (7, _), (6, _), (0, _), (1, _), (2, _), (3, _), (4, _), (5, _)]) rfl ?_
        obtain ⟨i, Y2, hi, e1, hcY2, hsame, hnew, hi6⟩ : ∃ (i : Nat) (Y2 : Nat → Nat → Int64), i = 0 ∧ Y2 = Y1 ∧ (∀ j, j ≠ 1 → j ≠ 2 → Y2 j = Y j) ∧ (∀ a w, a < 20 → w < 6 → a ≠ k ∨ i ≤ w → kkw Y2 a w = kkw Y1 a w) ∧ (∀ w, w < i → kkw Y2 k w = kkw Y1 (k + 1) w) ∧ i ≤ 6 := ⟨0, Y1, rfl, rfl, hcY, fun _ _ _ _ _ => rfl, fun w hw => absurd hw (Nat.not_lt_zero w), by decide⟩
        refine v_x (x' := (y0, X3, Y2)) (fun H hP => by rw [e1]; exact hP) ?_
        refine v_lv (lv' := [(8, .int (nI i)), (7, _), (6, _), (0, _), (1, _), (2, _), (3, _), (4, _), (5, _)]) (by rw [hi]; rfl) ?_
        clear hi e1
        induction hd2 : (6 - i) using Nat.strongRecOn generalizing i Y2 with | _ d2 ih2 =>
          refine v_iload C dL_drops_63 (j := 0) rfl ?_
          refine v_bipush C dL_drops_65 (v := 6) (by decide) ?_
          refine v_icmp_ge C 98 dL_drops_67 (by decide) (fun c5 => ?_) (fun c5 => ?_)
          · skip
            have c6 : i = 6 := by have := le_of (a := 6) c5 (by decide) (by omega); omega
            refine v_iinc C dL_drops_98 (j := 1) (v := _ + 1) rfl rfl (by decide) (lv' := [(7, _), (8, _), (6, _), (0, _), (1, _), (2, _), (3, _), (4, _), (5, _)]) rfl ?_
            refine v_goto C 42 dL_drops_101 (by decide) ?_
            rw [nI_1]
            refine v_sub [0, 2, 3, 4, 5, 6, 7, 8] rfl ?_
            refine ih (rs.length - (k + 1)) (by omega) (k + 1) X3 Y2 zc hcY2 (by omega) (by omega) z4 z6 (fun a w ha hw => ?_) rfl
            by_cases hik : a = k
            · rw [hik, hnew w (by omega), shk_same hkl, hkk (k + 1) w (by omega) hw, ek]
            · rw [shk_next hik, hsame a w ha hw (Or.inl hik), hkk a w ha hw]
          · skip
            have c6 : i < 6 := lt_ofn (a := 6) c5 (by decide) (by omega)
            refine v_aload_n C dL_drops_70 (j := 6) rfl rfl ?_
            refine v_aload C dL_drops_71 (j := 7) rfl ?_
            refine v_iload C dL_drops_73 (j := 1) rfl ?_
            refine v_iload C dL_drops_75 (j := 0) rfl ?_
            refine v_aload_n C dL_drops_77 (j := 6) rfl rfl ?_
            refine v_aload C dL_drops_78 (j := 7) rfl ?_
            refine v_iload C dL_drops_80 (j := 1) rfl ?_
            refine v_iconst C dL_drops_82 (v := 1) (by decide) ?_
            refine v_iadd C dL_drops_83 ?_
            rw [nI_1]
            refine v_iload C dL_drops_84 (j := 0) rfl ?_
            refine v_cl (v_runS C (n_get ht6 (i := k + 1) (w := i) (by omega) c6) (va_cwS 4 C.1.2.2.2.2 gL_drops_L_get rfl rfl rfl (by decide +kernel) ⟨Nat.le_of_ble_eq_true rfl, Nat.le_of_ble_eq_true rfl⟩) rfl dL_drops_86 (rest := [_, _, _, _]) (Nat.le_of_ble_eq_true rfl) rfl ⟨(by first | exact Nat.le_of_ble_eq_true rfl | (dsimp only; omega)), (by first | exact Nat.le_of_ble_eq_true rfl | (dsimp only; omega))⟩) (fun q x' hx' => ?_)
            obtain ⟨rfl, rfl⟩ := hx'
            refine v_cv (v_runS C (n_put ht6 (i := k) (w := i) (by omega) c6 (kkw Y2 (k + 1) i)) (va_cwS 5 C.1.2.2.2.2 gL_drops_L_put rfl rfl rfl (by decide +kernel) ⟨Nat.le_of_ble_eq_true rfl, Nat.le_of_ble_eq_true rfl⟩) rfl dL_drops_89 (rest := []) (Nat.le_of_ble_eq_true rfl) rfl ⟨(by first | exact Nat.le_of_ble_eq_true rfl | (dsimp only; omega)), (by first | exact Nat.le_of_ble_eq_true rfl | (dsimp only; omega))⟩) (fun x' hx' => ?_)
            obtain ⟨Y3, rfl, p1, p2, p3⟩ := hx'
            refine v_iinc C dL_drops_92 (j := 0) (v := _ + 1) rfl rfl (by decide) (lv' := [(8, _), (7, _), (6, _), (0, _), (1, _), (2, _), (3, _), (4, _), (5, _)]) rfl ?_
            refine v_goto C 63 dL_drops_95 (by decide) ?_
            rw [nI_1]
            refine ih2 (6 - (i + 1)) (by omega) (i + 1) Y3 (fun j j1 j2 => (p3 j j1 j2).trans (hcY2 j j1 j2)) (fun a w ha hw haw => by rw [p2 a w ha hw (by omega)]; exact hsame a w ha hw (by omega)) (fun w hw => ?_) (by omega) rfl
            by_cases hwi : w = i
            · rw [hwi, p1]
              exact hsame (k + 1) i (by omega) c6 (Or.inl (by omega))
            · rw [p2 k w (by omega) (by omega) (Or.inr hwi)]
              exact hnew w (by omega)
  · skip
    have hfe : fnd rs t = rs.length := by omega
    rw [if_neg hf]
    refine v_iload C dL_drops_16 (j := 0) rfl ?_
    refine v_if_ge C 25 dL_drops_18 (by decide) (fun c1 => absurd c1 (by decide)) (fun c1 => ?_)
    refine v_iconst C dL_drops_21 (v := 0) (by decide) ?_
    refine v_goto C 26 dL_drops_22 (by decide) ?_
    refine v_isub C dL_drops_26 ?_
    refine v_int (b := nI rs.length) (by rw [Int32.sub_zero]) ?_
    refine v_iast C dL_drops_27 1 ht1 (by unfold vp_in; decide) (N_sg _) ?_
    obtain ⟨X1, hX1, x4, xo, x6, xc⟩ : ∃ X1, X1 = va_up X 5 (upd (X 5) (4 : Int32).toNatClampNeg (nI rs.length)) ∧ X1 5 4 = nI rs.length ∧ (∀ j, j ≠ 4 → X1 5 j = X 5 j) ∧ X1 6 = X 6 ∧ ich [5, 6] X X1 := ⟨_, rfl, by rw [va_up_same]; rfl, fun j hj => by rw [va_up_same]; exact if_neg hj, va_up_other _ _ _ (by decide), ich_u (by decide) _⟩
    rw [← hX1]
    clear hX1
    refine v_iload C dL_drops_28 (j := 0) rfl ?_
    refine v_if_ge C 38 dL_drops_30 (by decide) (fun c2 => absurd c2 (by decide)) (fun c2 => ?_)
    refine v_bipush C dL_drops_33 (v := 20) (by decide) ?_
    refine v_goto C 40 dL_drops_35 (by decide) ?_
    refine v_istore C dL_drops_40 (by decide) (lv' := [(7, _), (6, _), (0, _), (1, _), (2, _), (3, _), (4, _), (5, _)]) rfl ?_
    refine v_iload C dL_drops_42 (j := 0) rfl ?_
    refine v_aload_n C dL_drops_44 (j := 3) rfl rfl ?_
    refine v_iconst C dL_drops_45 (v := 4) (by decide) ?_
    refine v_iald C dL_drops_46 1 ht1 N_g (by unfold vp_in; decide) ?_
    refine v_int (b := nI rs.length) x4 ?_
    refine v_icmp_ge C 104 dL_drops_47 (by decide) (fun c3 => ?_) (fun c3 => absurd c3 (fun q => q ((nI_leI (a := rs.length) (b := 20) (by omega) (by decide)).mpr g20)))
    exact v_return C dL_drops_104 hr (Nat.le_of_ble_eq_true rfl) (Nat.le_of_ble_eq_true rfl) (⟨X1, Y, rfl, by rw [show dropR rs t = rs from List.eraseIdx_of_length_le (by omega)]; exact hrs.ch (by rw [x4, g4]) x6 rfl rfl, xo, xc, fun _ _ _ => rfl⟩)
end NR
