/-! ===== the reference: rows ===== -/
theorem wfX12_rowOf_193 : Cond.fieldLink RX12 193 "FieldScribeModel" (TX12 21).2.1 (TX12 21).2.2.1 ∈ wsX12_rowOf := by decide +kernel
theorem wiX12_rowOf_X12 : ∀ w ∈ u_ws RX12 TX12 34, w ∈ wsX12_rowOf := by decide +kernel
theorem wfX12_rowOf_60 : Cond.fieldLink RX12 60 "FieldScribeModel" (TX12 23).2.1 (TX12 23).2.2.1 ∈ wsX12_rowOf := by decide +kernel
theorem wfX12_rowOf_57 : Cond.fieldLink RX12 57 "FieldScribeModel" (TX12 22).2.1 (TX12 22).2.2.1 ∈ wsX12_rowOf := by decide +kernel
theorem wfX12_rowOf_13 : Cond.fieldLink RX12 13 "FieldScribeModel" (TX12 1).2.1 (TX12 1).2.2.1 ∈ wsX12_rowOf := by decide +kernel
def mTs (c la ta : Nat) (I : Nat → Int32) (M : Nat → Nat → Int32) (ts : List (List Int32)) : Prop := I c = nI ts.length ∧ ∀ i, i < ts.length → M la i = nI (ts.getD i []).length ∧ (ts.getD i []).length ≤ 60 ∧ ∀ j, j < (ts.getD i []).length → M ta (60 * i + j) = (ts.getD i []).getD j 0
def mRws (I : Nat → Int32) (M : Nat → Nat → Int32) (rs : RR) : Prop := mTs 21 23 22 I M (rs.map (·.1)) ∧ (∀ i, i < rs.length → M 24 i = (rs.getD i ([], 0)).2) ∧ rs.length ≤ 20
/-- the rows' names differ -/
def ndR (rs : RR) : Prop := ∀ i j, i < rs.length → j < rs.length → (rs.getD i ([], 0)).1 = (rs.getD j ([], 0)).1 → i = j
theorem map_getD (rs : RR) (i : Nat) : (rs.map (·.1)).getD i [] = (rs.getD i ([], 0)).1 := by
  simp only [List.getD_eq_getElem?_getD, List.getElem?_map]
  cases rs[i]? <;> rfl
theorem fnd_app (xs : RR) (q : List Int32 × Int32) (s : List Int32) : fnd (xs ++ [q]) s = if fnd xs s < xs.length then fnd xs s else if q.1 = s then xs.length else xs.length + 1 := by
  induction xs with
  | nil => show (if q.1 = s then 0 else 0 + 1) = _; simp [fnd]
  | cons p t ih =>
    show (if p.1 = s then 0 else fnd (t ++ [q]) s + 1) = _
    by_cases h : p.1 = s
    · rw [if_pos h, show fnd (p :: t) s = 0 from if_pos h, if_pos (by simp)]
    · rw [if_neg h, ih, fnd_no h]
      simp only [List.length_cons]
      by_cases h2 : fnd t s < t.length
      · rw [if_pos h2, if_pos (by omega)]
      · have h4 : ¬ fnd t s + 1 < t.length + 1 := by omega
        rw [if_neg h2, if_neg h4]
        by_cases h3 : q.1 = s
        · rw [if_pos h3, if_pos h3]
        · rw [if_neg h3, if_neg h3]
def foF (rs : RR) (k : Nat) (t : List Int32) : Int32 := if fnd (rs.take k) t < k then nI (fnd (rs.take k) t) else -1
theorem foF_step {rs : RR} {k : Nat} {t : List Int32} (hk : k < rs.length) (hnd : ndR rs) : foF rs (k + 1) t = if (rs.getD k ([], 0)).1 = t then nI k else foF rs k t := by
  have e1 : rs.take (k + 1) = rs.take k ++ [rs.getD k ([], 0)] := by rw [List.take_add_one, List.getD_eq_getElem?_getD, List.getElem?_eq_getElem hk]; rfl
  have e2 : (rs.take k).length = k := by rw [List.length_take]; omega
  unfold foF
  rw [e1, fnd_app, e2]
  by_cases h : fnd (rs.take k) t < k
  · have hn := fnd_name (rs.take k) t (by omega)
    have e3 : (rs.take k).getD (fnd (rs.take k) t) ([], 0) = rs.getD (fnd (rs.take k) t) ([], 0) := by simp [List.getD_eq_getElem?_getD, List.getElem?_take, h]
    rw [e3] at hn
    rw [if_pos h, if_pos (by omega), if_pos h, if_neg (fun z => by have := hnd _ _ hk (by omega) (z.trans hn.symm); omega)]
  · rw [if_neg h, if_neg h]
    by_cases h2 : (rs.getD k ([], 0)).1 = t
    · rw [if_pos h2, if_pos (by omega), if_pos h2]
    · rw [if_neg h2, if_neg (by omega), if_neg h2]
theorem foF_all (rs : RR) (t : List Int32) : foF rs rs.length t = if fnd rs t < rs.length then nI (fnd rs t) else -1 := by unfold foF; rw [List.take_length]
theorem nI_60 (k j : Nat) : 60 * nI k + nI j = nI (60 * k + j) := by rw [show (60 : Int32) = nI 60 from rfl, nI_mul, nI_add]
section MRW
variable {l : Launch} {D : va_G} {tys : List (ClassId × FieldType)} {z0 : Nat} {A : Nat → Prop} {cI cZ : ClassId} {md : Nat} {ad : Nat → Nat} {I : Nat → Int32} {M : Nat → Nat → Int32} {sep rnum : Int32} {r : List Int32} {rs : RR}
set_option maxRecDepth 100000 in
set_option maxHeartbeats 8000000 in
theorem m_rowOf (ht1 : tys[1]? = some (cI, .int)) (hR : mRec I M r) {k9 b e2 : Nat} {t : List Int32} (hk9 : k9 ≤ 12) (hb : bOf I M k9 = nI b) (he : eOf I M k9 = nI e2) (hs : str r b e2 t) (hrs : mRws I M rs) (hnd : ndR rs) : ct D tys z0 A (picM D cI cZ md ad A) l yX12_rowOf wsX12_rowOf (rmL 1 21) [.ref md, .int (nI k9)] (I, M) (qI (picM D cI cZ md ad A) A (fun q x => x = (I, M) ∧ q = if fnd rs t < rs.length then nI (fnd rs t) else -1)) := by
  have hl := str_len hs
  have h60 := hR.2.1
  have hbe := hs.1
  have her := hs.2.1
  obtain ⟨⟨h21, hts⟩, hsum, h20⟩ := hrs
  rw [List.length_map] at h21 hts
  refine ct_of RX12 (by decide +kernel) rfl rfl (Nat.le_of_ble_eq_true rfl) ?_
  intro p e s m below meth c C hr hm
  refine v_lv (lv' := [(0, _), (1, _)]) rfl ?_
  refine v_iconst C dX12_rowOf_0 (v := (-1)) (by decide) ?_
  refine v_istore_n C dX12_rowOf_1 rfl (by decide) (lv' := [(2, _), (0, _), (1, _)]) rfl ?_
  refine v_iconst C dX12_rowOf_2 (v := 0) (by decide) ?_
  refine v_istore_n C dX12_rowOf_3 rfl (by decide) (lv' := [(3, _), (2, _), (0, _), (1, _)]) rfl ?_
  obtain ⟨k, hk, hkl⟩ : ∃ k : Nat, k = 0 ∧ k ≤ rs.length := ⟨0, rfl, Nat.zero_le _⟩
  refine v_lv (lv' := [(3, .int (nI k)), (2, .int (foF rs k t)), (0, _), (1, _)]) (by rw [hk]; rfl) ?_
  clear hk
  induction hd : (rs.length - k) using Nat.strongRecOn generalizing k with | _ d ih =>
    refine v_iload_n C dX12_rowOf_4 (j := 0) rfl rfl ?_
    refine v_aload_n C dX12_rowOf_5 (j := 2) rfl rfl ?_
    refine v_get C (T := TX12) (ci := 12) (j := 21) dX12_rowOf_6 wiX12_rowOf_X12 rfl (by decide) wfX12_rowOf_193 (fun _ h => h) (M_int rfl (by decide)) ?_
    rw [h21]
    refine v_icmp_ge C 116 dX12_rowOf_9 (by decide) (fun c1 => ?_) (fun c1 => ?_)
    · skip
      have c2 : k = rs.length := by have := le_of c1 (by omega) (by omega); omega
      refine v_iload_n C dX12_rowOf_116 (j := 1) rfl rfl ?_
      exact v_ireturn C dX12_rowOf_117 hr (rfl) (Nat.le_of_ble_eq_true rfl) (Nat.le_of_ble_eq_true rfl) (⟨rfl, by rw [c2, foF_all]⟩)
    · skip
      have c2 : k < rs.length := lt_ofn c1 (by omega) (by omega)
      obtain ⟨k1, k2, k3⟩ := hts k c2
      rw [map_getD] at k1 k2 k3
      obtain ⟨nm, hnm⟩ : ∃ nm, nm = (rs.getD k ([], 0)).1 := ⟨_, rfl⟩
      rw [← hnm] at k1 k2 k3
      refine v_aload_n C dX12_rowOf_12 (j := 2) rfl rfl ?_
      refine v_get C (T := TX12) (ci := 12) (j := 23) dX12_rowOf_13 wiX12_rowOf_X12 rfl (by decide) wfX12_rowOf_60 (fun _ h => h) (M_ref rfl (by decide)) ?_
      refine v_iload_n C dX12_rowOf_16 (j := 0) rfl rfl ?_
      refine v_iald C dX12_rowOf_17 1 ht1 (M_arr (j := 23) rfl) (vp_in_nI (by show k < 20; omega) (by decide)) ?_
      rw [nI_clamp (by omega), k1]
      refine v_aload_n C dX12_rowOf_18 (j := 2) rfl rfl ?_
      refine v_iload_n C dX12_rowOf_19 (j := 3) rfl rfl ?_
      refine v_ci (v_runV C (m_to ht1 hk9 he) (cwV 1 C.1.2.2.2.2 gX12_rowOf_X12_to rfl rfl rfl (by decide +kernel) ⟨Nat.le_of_ble_eq_true rfl, Nat.le_of_ble_eq_true rfl⟩) rfl rfl (M_gC) dX12_rowOf_20 (rest := [_]) (Nat.le_of_ble_eq_true rfl) rfl ⟨(by first | exact Nat.le_of_ble_eq_true rfl | (dsimp only; omega)), (by first | exact Nat.le_of_ble_eq_true rfl | (dsimp only; omega))⟩) (fun q x' hx' => ?_)
      obtain ⟨rfl, rfl⟩ := hx'
      refine v_aload_n C dX12_rowOf_23 (j := 2) rfl rfl ?_
      refine v_iload_n C dX12_rowOf_24 (j := 3) rfl rfl ?_
      refine v_ci (v_runV C (m_from ht1 hk9 hb) (cwV 1 C.1.2.2.2.2 gX12_rowOf_X12_from rfl rfl rfl (by decide +kernel) ⟨Nat.le_of_ble_eq_true rfl, Nat.le_of_ble_eq_true rfl⟩) rfl rfl (M_gC) dX12_rowOf_25 (rest := [_, _]) (Nat.le_of_ble_eq_true rfl) rfl ⟨(by first | exact Nat.le_of_ble_eq_true rfl | (dsimp only; omega)), (by first | exact Nat.le_of_ble_eq_true rfl | (dsimp only; omega))⟩) (fun q x' hx' => ?_)
      obtain ⟨rfl, rfl⟩ := hx'
      refine v_isub C dX12_rowOf_28 ?_
      refine v_int (b := nI t.length) (by rw [hl]; exact pk_sub (by omega)) ?_
      refine v_cut (pcj := 37) (lvj := [(3, .int (nI k)), (2, .int (foF rs k t)), (0, .ref md), (1, .int (nI k9))]) (stj := []) (fun w => w = bI (decide (nm.length = t.length))) (fun w hw => ?_) (fun K => ?_)
      · skip
        subst hw
        refine v_istore C dX12_rowOf_37 (by decide) (lv' := [(4, _), (3, _), (2, _), (0, _), (1, _)]) rfl ?_
        refine v_iconst C dX12_rowOf_39 (v := 0) (by decide) ?_
        refine v_istore C dX12_rowOf_40 (by decide) (lv' := [(5, _), (4, _), (3, _), (2, _), (0, _), (1, _)]) rfl ?_
        obtain ⟨j, g, hj, hg0, hg, hjl⟩ : ∃ (j : Nat) (g : Bool), j = 0 ∧ g = decide (nm.length = t.length) ∧ g = (decide (nm.length = t.length) && decide (nm.take j = t.take j)) ∧ j ≤ nm.length := ⟨0, _, rfl, rfl, by simp, Nat.zero_le _⟩
        refine v_lv (lv' := [(5, .int (nI j)), (4, .int (bI g)), (3, _), (2, _), (0, _), (1, _)]) (by rw [hj, hg0]; rfl) ?_
        clear hj hg0
        induction hd2 : (nm.length - j) using Nat.strongRecOn generalizing j g with | _ d2 ih2 =>
          refine v_cut0 (pcj := 99) (lvj := [(4, .int (bI g)), (3, .int (nI k)), (2, .int (foF rs k t)), (0, .ref md), (1, .int (nI k9))]) (stj := []) (g = decide (nm = t)) (fun hw => ?_) (fun K => ?_)
          · skip
            subst hw
            refine v_iload C dX12_rowOf_99 (j := 0) rfl ?_
            refine v_cut (pcj := 109) (lvj := [(4, .int (bI (decide (nm = t)))), (3, .int (nI k)), (0, .ref md), (1, .int (nI k9))]) (stj := []) (fun w => w = foF rs (k + 1) t) (fun w hw => ?_) (fun K => ?_)
            · skip
              subst hw
              refine v_istore_n C dX12_rowOf_109 rfl (by decide) (lv' := [(2, _), (4, _), (3, _), (0, _), (1, _)]) rfl ?_
              refine v_iinc C dX12_rowOf_110 (j := 2) (v := _ + 1) rfl rfl (by decide) (lv' := [(3, _), (2, _), (4, _), (0, _), (1, _)]) rfl ?_
              refine v_goto C 4 dX12_rowOf_113 (by decide) ?_
              rw [nI_1]
              refine v_lv (lv' := [(3, .int (nI (k + 1))), (2, .int (foF rs (k + 1) t)), (4, _), (0, _), (1, _)]) rfl ?_
              exact v_sub [0, 1, 3, 4] rfl (ih (rs.length - (k + 1)) (by omega) (k + 1) (by omega) rfl)
            · skip
              refine v_if_eq C 108 dX12_rowOf_101 (by decide) (fun c3 => ?_) (fun c3 => ?_)
              · skip
                refine v_iload_n C dX12_rowOf_108 (j := 2) rfl rfl ?_
                refine v_sub [0, 1, 3, 4] rfl ?_
                exact K _ (by rw [foF_step c2 hnd, ← hnm, if_neg (of_decide_eq_false (bI_0 c3))])
              · skip
                refine v_iload_n C dX12_rowOf_104 (j := 1) rfl rfl ?_
                refine v_goto C 109 dX12_rowOf_105 (by decide) ?_
                refine v_sub [0, 1, 3, 4] rfl ?_
                exact K _ (by rw [foF_step c2 hnd, ← hnm, if_pos (of_decide_eq_true (bI_1 c3))])
          · skip
            refine v_iload C dX12_rowOf_42 (j := 0) rfl ?_
            refine v_aload_n C dX12_rowOf_44 (j := 4) rfl rfl ?_
            refine v_get C (T := TX12) (ci := 12) (j := 23) dX12_rowOf_45 wiX12_rowOf_X12 rfl (by decide) wfX12_rowOf_60 (fun _ h => h) (M_ref rfl (by decide)) ?_
            refine v_iload_n C dX12_rowOf_48 (j := 2) rfl rfl ?_
            refine v_iald C dX12_rowOf_49 1 ht1 (M_arr (j := 23) rfl) (vp_in_nI (by show k < 20; omega) (by decide)) ?_
            rw [nI_clamp (by omega), k1]
            refine v_icmp_ge C 99 dX12_rowOf_50 (by decide) (fun c3 => ?_) (fun c3 => ?_)
            · skip
              have c4 := le_of c3 (by omega) (by omega)
              refine v_sub [1, 2, 3, 4, 5] rfl ?_
              exact K (by
                rw [hg, List.take_of_length_le c4]
                by_cases h9 : nm = t
                · rw [h9, List.take_of_length_le (by rw [← h9]; exact c4)]; simp
                · rw [decide_eq_false h9]
                  by_cases h8 : nm.length = t.length
                  · rw [List.take_of_length_le (by rw [← h8]; exact c4), decide_eq_false h9, Bool.and_false]
                  · rw [decide_eq_false h8]; rfl)
            · skip
              have c4 : j < nm.length := lt_ofn c3 (by omega) (by omega)
              refine v_iload C dX12_rowOf_53 (j := 1) rfl ?_
              refine v_if_eq C 99 dX12_rowOf_55 (by decide) (fun c5 => ?_) (fun c5 => ?_)
              · skip
                refine v_sub [1, 2, 3, 4, 5] rfl ?_
                have hgf := bI_0 c5
                exact K (by
                  rw [hgf]
                  symm
                  refine decide_eq_false (fun z => ?_)
                  rw [z] at hg
                  simp at hg
                  rw [hg] at hgf
                  cases hgf)
              · skip
                have hgt := bI_1 c5
                rw [hgt] at hg
                have hg2 := hg.symm
                rw [Bool.and_eq_true] at hg2
                have hle := of_decide_eq_true hg2.1
                have htk := of_decide_eq_true hg2.2
                refine v_aload_n C dX12_rowOf_58 (j := 4) rfl rfl ?_
                refine v_get C (T := TX12) (ci := 12) (j := 22) dX12_rowOf_59 wiX12_rowOf_X12 rfl (by decide) wfX12_rowOf_57 (fun _ h => h) (M_ref rfl (by decide)) ?_
                refine v_bipush C dX12_rowOf_62 (v := 60) (by decide) ?_
                refine v_iload_n C dX12_rowOf_64 (j := 2) rfl rfl ?_
                refine v_imul C dX12_rowOf_65 ?_
                refine v_iload C dX12_rowOf_66 (j := 0) rfl ?_
                refine v_iadd C dX12_rowOf_68 ?_
                refine v_int (b := nI (60 * k + j)) (nI_60 k j) ?_
                refine v_iald C dX12_rowOf_69 1 ht1 (M_arr (j := 22) rfl) (vp_in_nI (by show 60 * k + j < 1200; omega) (by decide)) ?_
                refine v_int (b := nm.getD j 0) (by rw [nI_clamp (by omega)]; exact k3 j c4) ?_
                refine v_aload_n C dX12_rowOf_70 (j := 4) rfl rfl ?_
                refine v_get C (T := TX12) (ci := 12) (j := 1) dX12_rowOf_71 wiX12_rowOf_X12 rfl (by decide) wfX12_rowOf_13 (fun _ h => h) (M_ref rfl (by decide)) ?_
                refine v_aload_n C dX12_rowOf_74 (j := 4) rfl rfl ?_
                refine v_iload_n C dX12_rowOf_75 (j := 5) rfl rfl ?_
                refine v_ci (v_runV C (m_from ht1 hk9 hb) (cwV 1 C.1.2.2.2.2 gX12_rowOf_X12_from rfl rfl rfl (by decide +kernel) ⟨Nat.le_of_ble_eq_true rfl, Nat.le_of_ble_eq_true rfl⟩) rfl rfl (M_gC) dX12_rowOf_76 (rest := [_, _]) (Nat.le_of_ble_eq_true rfl) rfl ⟨(by first | exact Nat.le_of_ble_eq_true rfl | (dsimp only; omega)), (by first | exact Nat.le_of_ble_eq_true rfl | (dsimp only; omega))⟩) (fun q x' hx' => ?_)
                obtain ⟨rfl, rfl⟩ := hx'
                refine v_iload C dX12_rowOf_79 (j := 0) rfl ?_
                refine v_iadd C dX12_rowOf_81 ?_
                refine v_int (b := nI (b + j)) (nI_add b j) ?_
                refine v_iald C dX12_rowOf_82 1 ht1 (M_arr (j := 1) rfl) (vp_in_nI (by show b + j < 60; omega) (by decide)) ?_
                refine v_int (b := t.getD j 0) (by rw [nI_clamp (by omega), hR.2.2 _ (by omega), str_get hs (by omega)]) ?_
                refine v_cut (pcj := 91) (lvj := [(5, .int (nI j)), (4, .int (bI g)), (3, .int (nI k)), (2, .int (foF rs k t)), (0, .ref md), (1, .int (nI k9))]) (stj := []) (fun w => w = bI (decide (nm.getD j 0 = t.getD j 0))) (fun w hw => ?_) (fun K => ?_)
                · skip
                  subst hw
                  refine v_istore C dX12_rowOf_91 (by decide) (lv' := [(4, _), (5, _), (3, _), (2, _), (0, _), (1, _)]) rfl ?_
                  refine v_iinc C dX12_rowOf_93 (j := 1) (v := _ + 1) rfl rfl (by decide) (lv' := [(5, _), (4, _), (3, _), (2, _), (0, _), (1, _)]) rfl ?_
                  refine v_goto C 42 dX12_rowOf_96 (by decide) ?_
                  rw [nI_1]
                  refine v_lv (lv' := [(5, .int (nI (j + 1))), (4, .int (bI (decide (nm.getD j 0 = t.getD j 0)))), (3, _), (2, _), (0, _), (1, _)]) rfl ?_
                  exact ih2 (nm.length - (j + 1)) (by omega) (j + 1) _ (by
                    rw [decide_eq_true hle, Bool.true_and, take_snoc c4, take_snoc (by omega), htk]
                    by_cases h9 : nm.getD j 0 = t.getD j 0
                    · rw [h9]; simp
                    · rw [decide_eq_false h9]; symm; refine decide_eq_false (fun z => h9 ?_); simpa using z) (by omega) rfl
                · skip
                  refine v_icmp_ne C 90 dX12_rowOf_83 (by decide) (fun c6 => ?_) (fun c6 => ?_)
                  · skip
                    refine v_iconst C dX12_rowOf_90 (v := 0) (by decide) ?_
                    exact K _ (bI_f (decide_eq_false c6))
                  · skip
                    refine v_iconst C dX12_rowOf_86 (v := 1) (by decide) ?_
                    refine v_goto C 91 dX12_rowOf_87 (by decide) ?_
                    exact K _ (bI_t (decide_eq_true c6))
      · skip
        refine v_icmp_ne C 36 dX12_rowOf_29 (by decide) (fun c3 => ?_) (fun c3 => ?_)
        · skip
          refine v_iconst C dX12_rowOf_36 (v := 0) (by decide) ?_
          exact K _ (bI_f (decide_eq_false (fun z => c3 (by rw [z]))))
        · skip
          refine v_iconst C dX12_rowOf_32 (v := 1) (by decide) ?_
          refine v_goto C 37 dX12_rowOf_33 (by decide) ?_
          exact K _ (bI_t (decide_eq_true (by have := congrArg Int32.toNatClampNeg c3; rw [nI_clamp (by omega), nI_clamp (by omega)] at this; exact this)))
end MRW
