/-! ===== the reference: actions done ===== -/
theorem wfX12_does_42 : Cond.fieldLink RX12 42 "FieldScribeModel" (TX12 16).2.1 (TX12 16).2.2.1 ∈ wsX12_does := by decide +kernel
theorem wiX12_does_X12 : ∀ w ∈ u_ws RX12 TX12 34, w ∈ wsX12_does := by decide +kernel
theorem wfX12_does_45 : Cond.fieldLink RX12 45 "FieldScribeModel" (TX12 17).2.1 (TX12 17).2.2.1 ∈ wsX12_does := by decide +kernel
theorem fnd_none : ∀ (rs : RR) (s : List Int32), fnd rs s = rs.length → ∀ i, i < rs.length → (rs.getD i ([], 0)).1 ≠ s := by
  intro rs s
  induction rs with
  | nil => intro _ i hi; cases hi
  | cons q t ih =>
    intro h i hi
    by_cases hq : q.1 = s
    · rw [show fnd (q :: t) s = 0 from if_pos hq] at h; cases h
    · rw [fnd_no hq] at h
      simp only [List.length_cons] at h hi
      cases i with
      | zero => exact hq
      | succ i => exact ih (by omega) i (by omega)
theorem ndR_grow {rs : RR} (h : ndR rs) (s : List Int32) (z : Int32) : ndR (growR rs s z) := by
  unfold growR
  by_cases h20 : 20 ≤ fnd rs s
  · rw [if_pos h20]; exact h
  · rw [if_neg h20]
    have hle := fnd_le rs s
    have key : ∀ i, i < (grwF rs s).length → (((grwF rs s).set (fnd rs s) (s, fitI ((sumAt rs s).toInt64 + z.toInt64))).getD i ([], 0)).1 = if i = fnd rs s then s else (rs.getD i ([], 0)).1 := fun i hi => by
      by_cases hif : i = fnd rs s
      · subst hif; rw [if_pos rfl]; simp [List.getD_eq_getElem?_getD, hi]
      · rw [if_neg hif]
        have e1 : ((grwF rs s).set (fnd rs s) (s, fitI ((sumAt rs s).toInt64 + z.toInt64))).getD i ([], 0) = (grwF rs s).getD i ([], 0) := by simp [List.getD_eq_getElem?_getD, List.getElem?_set_ne (Ne.symm hif)]
        rw [e1]
        unfold grwF at hi ⊢
        split
        · rename_i hf
          rw [if_pos hf] at hi
          simp at hi
          rw [getD_app1 (by omega)]
        · rfl
    have hno : ∀ i, i < (grwF rs s).length → i ≠ fnd rs s → i < rs.length ∧ (rs.getD i ([], 0)).1 ≠ s := fun i hi hif => by
      unfold grwF at hi
      by_cases hf : fnd rs s = rs.length
      · rw [if_pos hf] at hi
        simp at hi
        exact ⟨by omega, fnd_none rs s hf i (by omega)⟩
      · rw [if_neg hf] at hi
        exact ⟨hi, fun y => hif (h i _ hi (by omega) (y.trans (fnd_name rs s (by omega)).symm))⟩
    intro i j hi hj hij
    rw [List.length_set] at hi hj
    rw [key i hi, key j hj] at hij
    by_cases hi1 : i = fnd rs s
    · by_cases hj1 : j = fnd rs s
      · omega
      · rw [if_pos hi1, if_neg hj1] at hij; exact absurd hij.symm (hno j hj hj1).2
    · by_cases hj1 : j = fnd rs s
      · rw [if_neg hi1, if_pos hj1] at hij; exact absurd hij (hno i hi hi1).2
      · rw [if_neg hi1, if_neg hj1] at hij; exact h i j (hno i hi hi1).1 (hno j hj hj1).1 hij
theorem ndR_drop {rs : RR} (h : ndR rs) (s : List Int32) : ndR (dropR rs s) := by
  unfold dropR
  by_cases hf : fnd rs s < rs.length
  · have hl : (rs.eraseIdx (fnd rs s)).length = rs.length - 1 := by rw [List.length_eraseIdx, if_pos hf]
    have e0 : ∀ i, (rs.eraseIdx (fnd rs s)).getD i ([], 0) = rs.getD (if i < fnd rs s then i else i + 1) ([], 0) := fun i => by
      simp only [List.getD_eq_getElem?_getD]
      rw [List.getElem?_eraseIdx]
      by_cases hif : i < fnd rs s
      · rw [if_pos hif, if_pos hif]
      · rw [if_neg hif, if_neg hif]
    intro i j hi hj hij
    rw [hl] at hi hj
    rw [e0, e0] at hij
    have := h _ _ (by split <;> omega) (by split <;> omega) hij
    split at this <;> split at this <;> omega
  · rw [List.eraseIdx_of_length_le (by omega)]; exact h
def mW (I : Nat → Int32) (M : Nat → Nat → Int32) (sep rnum : Int32) (w : WS) : Prop := mRec I M w.1 ∧ mCut I M sep w.1 ∧ mRws I M w.2.1 ∧ mLns I M w.2.2.1 ∧ I 9 = w.2.2.2 ∧ I 8 = rnum ∧ ndR w.2.1
def acV (c : Ac) : Prop := (c.1 = 0 ∨ c.1 = 1 ∨ c.1 = 2 ∨ c.1 = 3 ∨ c.1 = 4) ∧ (∃ k, k ≤ 12 ∧ c.2.1 = nI k) ∧ (c.2.2.1 = 0 ∨ c.2.2.1 = 1 ∨ c.2.2.1 = 2 ∨ c.2.2.1 = 3 ∨ c.2.2.1 = 4) ∧ okOp c.2.2.2.1 ∧ okOp c.2.2.2.2
def acM (M : Nat → Nat → Int32) (p : Nat) (c : Ac) : Prop := M 16 p = c.1 ∧ M 17 p = c.2.1 ∧ M 18 p = c.2.2.1 ∧ M 19 p = c.2.2.2.1 ∧ M 20 p = c.2.2.2.2 ∧ acV c
theorem mRec.ch {I I' : Nat → Int32} {M M' : Nat → Nat → Int32} {r : List Int32} {js ks : List Nat} (h : mRec I M r) (c : mch js ks I M I' M') (h1 : 2 ∉ js) (h2 : 1 ∉ ks) : mRec I' M' r := ⟨by rw [c.1 2 h1]; exact h.1, h.2.1, fun j hj => by rw [c.2 1 h2]; exact h.2.2 j hj⟩
theorem mRws.ch {I I' : Nat → Int32} {M M' : Nat → Nat → Int32} {rs : RR} {js ks : List Nat} (h : mRws I M rs) (c : mch js ks I M I' M') (h1 : 21 ∉ js) (h2 : 22 ∉ ks) (h3 : 23 ∉ ks) (h4 : 24 ∉ ks) : mRws I' M' rs := ⟨⟨by rw [c.1 21 h1]; exact h.1.1, fun i hi => by rw [c.2 22 h2, c.2 23 h3]; exact h.1.2 i hi⟩, fun i hi => by rw [c.2 24 h4]; exact h.2.1 i hi, h.2.2⟩
theorem mLns.ch {I I' : Nat → Int32} {M M' : Nat → Nat → Int32} {ls : List (List Int32)} {js ks : List Nat} (h : mLns I M ls) (c : mch js ks I M I' M') (h1 : 25 ∉ js) (h2 : 26 ∉ ks) (h3 : 27 ∉ ks) : mLns I' M' ls := ⟨⟨by rw [c.1 25 h1]; exact h.1.1, fun i hi => by rw [c.2 26 h2, c.2 27 h3]; exact h.1.2 i hi⟩, h.2⟩
section MA
variable {l : Launch} {D : va_G} {tys : List (ClassId × FieldType)} {z0 : Nat} {A : Nat → Prop} {cI cZ : ClassId} {md : Nat} {ad : Nat → Nat} {I : Nat → Int32} {M : Nat → Nat → Int32} {sep rnum : Int32} {w : WS} {c9 : Ac}
abbrev jsD : List Nat := [2, 3, 9, 21, 25, 29, 31]
abbrev ksD : List Nat := [1, 4, 5, 22, 23, 24, 26, 27, 28, 30, 32]
set_option maxRecDepth 100000 in
set_option maxHeartbeats 16000000 in
theorem m_does (ht1 : tys[1]? = some (cI, .int)) (hW : mW I M sep rnum w) (hn : ∃ N, N < 1000000000 ∧ rnum = nI N) {p9 : Nat} (hp : p9 < 48) (hA : acM M p9 c9) (h4 : c9.1 ≠ 4) : ct D tys z0 A (picM D cI cZ md ad A) l yX12_does wsX12_does (rmL 7 163) [.ref md, .int (nI p9)] (I, M) (qV (picM D cI cZ md ad A) A (fun x => ∃ I' M', x = (I', M') ∧ mW I' M' sep rnum (actS sep rnum w c9) ∧ mch jsD ksD I M I' M')) := by
  obtain ⟨hR, hC, hrs, hls, h9, h8, hnd⟩ := hW
  obtain ⟨g1, g2, g3, g4, g5, v1, ⟨kf, hkf, v2⟩, v3, v4, v5⟩ := hA
  obtain ⟨r, rs, ls, flt⟩ := w
  obtain ⟨kd, fd, op, x0, y0⟩ := c9
  dsimp only at hR hC hrs hls h9 hnd g1 g2 g3 g4 g5 v1 v2 v3 v4 v5 h4
  subst v2
  obtain ⟨b1, e1, hb1, he1, hs1⟩ := be hR hC hkf
  have hcl : (nI kf).toNatClampNeg = kf := nI_clamp (by omega)
  refine ct_of RX12 (by decide +kernel) rfl rfl (Nat.le_of_ble_eq_true rfl) ?_
  intro p e s m below meth c C hr hm
  refine v_lv (lv' := [(0, _), (1, _)]) rfl ?_
  refine v_aload_n C dX12_does_0 (j := 0) rfl rfl ?_
  refine v_get C (T := TX12) (ci := 12) (j := 16) dX12_does_1 wiX12_does_X12 rfl (by decide) wfX12_does_42 (fun _ h => h) (M_ref rfl (by decide)) ?_
  refine v_iload_n C dX12_does_4 (j := 1) rfl rfl ?_
  refine v_iald C dX12_does_5 1 ht1 (M_arr (j := 16) rfl) (vp_in_nI (by show p9 < 48; omega) (by decide)) ?_
  rw [nI_clamp (by omega), g1]
  by_cases h0 : kd = 0
  · skip
    refine v_tabIn C 32 dX12_does_6 (off := 26) (by rw [h0]; decide) (by rw [h0]; decide) (by rw [h0]; rfl) (by decide) ?_
    refine v_aload_n C dX12_does_32 (j := 0) rfl rfl ?_
    refine v_iload_n C dX12_does_33 (j := 1) rfl rfl ?_
    refine v_ci (v_runV C (m_finds ht1 hR hC h8 hn hp g3 g4 g5 v3 v4 v5) (cwV 1 C.1.2.2.2.2 gX12_does_X12_finds rfl rfl rfl (by decide +kernel) ⟨Nat.le_of_ble_eq_true rfl, Nat.le_of_ble_eq_true rfl⟩) rfl rfl (M_gC) dX12_does_34 (rest := []) (Nat.le_of_ble_eq_true rfl) rfl ⟨(by first | exact Nat.le_of_ble_eq_true rfl | (dsimp only; omega)), (by first | exact Nat.le_of_ble_eq_true rfl | (dsimp only; omega))⟩) (fun q x' hx' => ?_)
    obtain ⟨I2, M2, rfl, k1, k2, k3, k4⟩ := hx'
    refine v_pop C dX12_does_37 rfl ?_
    refine v_aload_n C dX12_does_38 (j := 0) rfl rfl ?_
    refine v_aload_n C dX12_does_39 (j := 0) rfl rfl ?_
    refine v_get C (T := TX12) (ci := 12) (j := 17) dX12_does_40 wiX12_does_X12 rfl (by decide) wfX12_does_45 (fun _ h => h) (M_ref rfl (by decide)) ?_
    refine v_iload_n C dX12_does_43 (j := 1) rfl rfl ?_
    refine v_iald C dX12_does_44 1 ht1 (M_arr (j := 17) rfl) (vp_in_nI (by show p9 < 48; omega) (by decide)) ?_
    refine v_int (b := nI kf) (by rw [nI_clamp (by omega), k4.2 17 (by decide)]; exact g2) ?_
    refine v_cv (v_runV C (m_sets ht1 (hR.ch k4 (by decide) (by decide)) (hC.ch k4 (by decide) (by decide) (by decide) (by decide)) k2 hkf) (cwV 1 C.1.2.2.2.2 gX12_does_X12_sets rfl rfl rfl (by decide +kernel) ⟨Nat.le_of_ble_eq_true rfl, Nat.le_of_ble_eq_true rfl⟩) rfl rfl (M_gC) dX12_does_45 (rest := []) (Nat.le_of_ble_eq_true rfl) rfl ⟨(by first | exact Nat.le_of_ble_eq_true rfl | (dsimp only; omega)), (by first | exact Nat.le_of_ble_eq_true rfl | (dsimp only; omega))⟩) (fun x' hx' => ?_)
    obtain ⟨I3, M3, rfl, m1, m2, m3⟩ := hx'
    have c := (k4.mo (js' := jsD) (ks' := ksD) (by decide) (by decide)).tr (m3.mo (by decide) (by decide))
    refine v_goto C 92 dX12_does_48 (by decide) ?_
    exact v_return C dX12_does_92 hr (Nat.le_of_ble_eq_true rfl) (Nat.le_of_ble_eq_true rfl) (⟨I3, M3, rfl, by unfold actS; dsimp only; rw [if_neg (by rw [h0]; decide), if_pos h0, hcl]; exact ⟨m1, m2, (hrs.ch k4 (by decide) (by decide) (by decide) (by decide)).ch m3 (by decide) (by decide) (by decide) (by decide), (hls.ch k4 (by decide) (by decide) (by decide)).ch m3 (by decide) (by decide) (by decide), by rw [m3.1 9 (by decide), k3, h9], by rw [m3.1 8 (by decide), k4.1 8 (by decide)]; exact h8, hnd⟩, c⟩)
  · skip
    by_cases h1 : kd = 1
    · skip
      refine v_tabIn C 51 dX12_does_6 (off := 45) (by rw [h1]; decide) (by rw [h1]; decide) (by rw [h1]; rfl) (by decide) ?_
      refine v_aload_n C dX12_does_51 (j := 0) rfl rfl ?_
      refine v_aload_n C dX12_does_52 (j := 0) rfl rfl ?_
      refine v_get C (T := TX12) (ci := 12) (j := 17) dX12_does_53 wiX12_does_X12 rfl (by decide) wfX12_does_45 (fun _ h => h) (M_ref rfl (by decide)) ?_
      refine v_iload_n C dX12_does_56 (j := 1) rfl rfl ?_
      refine v_iald C dX12_does_57 1 ht1 (M_arr (j := 17) rfl) (vp_in_nI (by show p9 < 48; omega) (by decide)) ?_
      refine v_int (b := nI kf) (by rw [nI_clamp (by omega)]; exact g2) ?_
      refine v_aload_n C dX12_does_58 (j := 0) rfl rfl ?_
      refine v_iload_n C dX12_does_59 (j := 1) rfl rfl ?_
      refine v_ci (v_runV C (m_finds ht1 hR hC h8 hn hp g3 g4 g5 v3 v4 v5) (cwV 1 C.1.2.2.2.2 gX12_does_X12_finds rfl rfl rfl (by decide +kernel) ⟨Nat.le_of_ble_eq_true rfl, Nat.le_of_ble_eq_true rfl⟩) rfl rfl (M_gC) dX12_does_60 (rest := [_, _]) (Nat.le_of_ble_eq_true rfl) rfl ⟨(by first | exact Nat.le_of_ble_eq_true rfl | (dsimp only; omega)), (by first | exact Nat.le_of_ble_eq_true rfl | (dsimp only; omega))⟩) (fun q x' hx' => ?_)
      obtain ⟨I2, M2, rfl, k1, k2, k3, k4⟩ := hx'
      have kb := be_ch (k := kf) k4 (by decide) (by decide) (by decide) (by decide)
      refine v_cv (v_runV C (m_grows ht1 (hR.ch k4 (by decide) (by decide)) hkf (kb.1.trans hb1) (kb.2.trans he1) hs1 (hrs.ch k4 (by decide) (by decide) (by decide) (by decide)) hnd q) (cwV 2 C.1.2.2.2.2 gX12_does_X12_grows rfl rfl rfl (by decide +kernel) ⟨Nat.le_of_ble_eq_true rfl, Nat.le_of_ble_eq_true rfl⟩) rfl rfl (M_gC) dX12_does_63 (rest := []) (Nat.le_of_ble_eq_true rfl) rfl ⟨(by first | exact Nat.le_of_ble_eq_true rfl | (dsimp only; omega)), (by first | exact Nat.le_of_ble_eq_true rfl | (dsimp only; omega))⟩) (fun x' hx' => ?_)
      obtain ⟨I3, M3, rfl, m1, m2, m3⟩ := hx'
      have c := (k4.mo (js' := jsD) (ks' := ksD) (by decide) (by decide)).tr (m3.mo (by decide) (by decide))
      refine v_goto C 92 dX12_does_66 (by decide) ?_
      exact v_return C dX12_does_92 hr (Nat.le_of_ble_eq_true rfl) (Nat.le_of_ble_eq_true rfl) (⟨I3, M3, rfl, by unfold actS; dsimp only; rw [if_neg (by rw [h1]; decide), if_neg h0, if_pos h1, hcl, ← k1]; exact ⟨(hR.ch k4 (by decide) (by decide)).ch m3 (by decide) (by decide), (hC.ch k4 (by decide) (by decide) (by decide) (by decide)).ch m3 (by decide) (by decide) (by decide) (by decide), m1, (hls.ch k4 (by decide) (by decide) (by decide)).ch m3 (by decide) (by decide) (by decide), by rw [m2, k3, h9], by rw [m3.1 8 (by decide), k4.1 8 (by decide)]; exact h8, ndR_grow hnd _ _⟩, c⟩)
    · skip
      by_cases h2 : kd = 2
      · skip
        refine v_tabIn C 69 dX12_does_6 (off := 63) (by rw [h2]; decide) (by rw [h2]; decide) (by rw [h2]; rfl) (by decide) ?_
        refine v_aload_n C dX12_does_69 (j := 0) rfl rfl ?_
        refine v_iload_n C dX12_does_70 (j := 1) rfl rfl ?_
        refine v_ci (v_runV C (m_finds ht1 hR hC h8 hn hp g3 g4 g5 v3 v4 v5) (cwV 1 C.1.2.2.2.2 gX12_does_X12_finds rfl rfl rfl (by decide +kernel) ⟨Nat.le_of_ble_eq_true rfl, Nat.le_of_ble_eq_true rfl⟩) rfl rfl (M_gC) dX12_does_71 (rest := []) (Nat.le_of_ble_eq_true rfl) rfl ⟨(by first | exact Nat.le_of_ble_eq_true rfl | (dsimp only; omega)), (by first | exact Nat.le_of_ble_eq_true rfl | (dsimp only; omega))⟩) (fun q x' hx' => ?_)
        obtain ⟨I2, M2, rfl, k1, k2, k3, k4⟩ := hx'
        refine v_pop C dX12_does_74 rfl ?_
        refine v_aload_n C dX12_does_75 (j := 0) rfl rfl ?_
        refine v_cv (v_runV C (m_prints ht1 k2 (hls.ch k4 (by decide) (by decide) (by decide))) (cwV 0 C.1.2.2.2.2 gX12_does_X12_prints rfl rfl rfl (by decide +kernel) ⟨Nat.le_of_ble_eq_true rfl, Nat.le_of_ble_eq_true rfl⟩) rfl rfl (M_gC) dX12_does_76 (rest := []) (Nat.le_of_ble_eq_true rfl) rfl ⟨(by first | exact Nat.le_of_ble_eq_true rfl | (dsimp only; omega)), (by first | exact Nat.le_of_ble_eq_true rfl | (dsimp only; omega))⟩) (fun x' hx' => ?_)
        obtain ⟨I3, M3, rfl, m1, m3⟩ := hx'
        have c := (k4.mo (js' := jsD) (ks' := ksD) (by decide) (by decide)).tr (m3.mo (by decide) (by decide))
        refine v_goto C 92 dX12_does_79 (by decide) ?_
        exact v_return C dX12_does_92 hr (Nat.le_of_ble_eq_true rfl) (Nat.le_of_ble_eq_true rfl) (⟨I3, M3, rfl, by unfold actS; dsimp only; rw [if_neg (by rw [h2]; decide), if_neg h0, if_neg h1]; exact ⟨(hR.ch k4 (by decide) (by decide)).ch m3 (by decide) (by decide), (hC.ch k4 (by decide) (by decide) (by decide) (by decide)).ch m3 (by decide) (by decide) (by decide) (by decide), (hrs.ch k4 (by decide) (by decide) (by decide) (by decide)).ch m3 (by decide) (by decide) (by decide) (by decide), m1, by rw [m3.1 9 (by decide), k3, h9], by rw [m3.1 8 (by decide), k4.1 8 (by decide)]; exact h8, hnd⟩, c⟩)
      · skip
        have h3 : kd = 3 := by rcases v1 with q | q | q | q | q; exact absurd q h0; exact absurd q h1; exact absurd q h2; exact q; exact absurd q h4
        refine v_tabOut C 82 dX12_does_6 (by rw [h3]; decide) (by decide) ?_
        refine v_aload_n C dX12_does_82 (j := 0) rfl rfl ?_
        refine v_aload_n C dX12_does_83 (j := 0) rfl rfl ?_
        refine v_get C (T := TX12) (ci := 12) (j := 17) dX12_does_84 wiX12_does_X12 rfl (by decide) wfX12_does_45 (fun _ h => h) (M_ref rfl (by decide)) ?_
        refine v_iload_n C dX12_does_87 (j := 1) rfl rfl ?_
        refine v_iald C dX12_does_88 1 ht1 (M_arr (j := 17) rfl) (vp_in_nI (by show p9 < 48; omega) (by decide)) ?_
        refine v_int (b := nI kf) (by rw [nI_clamp (by omega)]; exact g2) ?_
        refine v_cv (v_runV C (m_drops ht1 hR hkf hb1 he1 hs1 hrs hnd) (cwV 1 C.1.2.2.2.2 gX12_does_X12_drops rfl rfl rfl (by decide +kernel) ⟨Nat.le_of_ble_eq_true rfl, Nat.le_of_ble_eq_true rfl⟩) rfl rfl (M_gC) dX12_does_89 (rest := []) (Nat.le_of_ble_eq_true rfl) rfl ⟨(by first | exact Nat.le_of_ble_eq_true rfl | (dsimp only; omega)), (by first | exact Nat.le_of_ble_eq_true rfl | (dsimp only; omega))⟩) (fun x' hx' => ?_)
        obtain ⟨I3, M3, rfl, m1, m3⟩ := hx'
        exact v_return C dX12_does_92 hr (Nat.le_of_ble_eq_true rfl) (Nat.le_of_ble_eq_true rfl) (⟨I3, M3, rfl, by unfold actS; dsimp only; rw [if_pos h3, hcl]; exact ⟨hR.ch m3 (by decide) (by decide), hC.ch m3 (by decide) (by decide) (by decide) (by decide), m1, hls.ch m3 (by decide) (by decide) (by decide), by rw [m3.1 9 (by decide)]; exact h9, by rw [m3.1 8 (by decide)]; exact h8, ndR_drop hnd _⟩, m3.mo (by decide) (by decide)⟩)
end MA
