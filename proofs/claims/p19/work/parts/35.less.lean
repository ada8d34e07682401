/-! ===== the law: signs that texts are made of; which field is less ===== -/

def alph : List Int32 := 32 :: 45 :: 44 :: ((List.range 10).map (fun k => nI (48 + k)) ++ (List.range 26).map (fun k => nI (97 + k)))
/-- a text of such signs alone -/
def oks (s : List Int32) : Prop := ∀ c ∈ s, c ∈ alph
theorem al_plc : ∀ a ∈ alph, ∀ b ∈ alph, (plc a = plc b ↔ a = b) ∧ (rank a < rank b ↔ plc a < plc b) ∧ ¬ plc a = 0 ∧ ¬ plc a < 0 ∧ 0 < plc b := by decide +kernel
theorem oks_getD {s : List Int32} (h : oks s) {j : Nat} (hj : j < s.length) : s.getD j 0 ∈ alph := by
  rw [List.getD_eq_getElem?_getD, List.getElem?_eq_getElem hj]
  exact h _ (List.getElem_mem hj)
/-- the law's comparing of texts that aren't both numbers -/
def lss : List Int32 → List Int32 → Bool
  | [], [] => false
  | _ :: _, [] => false
  | [], _ :: _ => true
  | a :: s, b :: t => if plc a = plc b then lss s t else decide (plc a < plc b)
def lsc (s u : List Int32) : Bool := if fdif s u < s.length ∧ fdif s u < u.length then decide (rank (s.getD (fdif s u) 0) < rank (u.getD (fdif s u) 0)) else decide (s.length < u.length)
theorem lsc_eq : ∀ (s u : List Int32), oks s → oks u → lsc s u = lss s u := by
  intro s
  induction s with
  | nil =>
    intro u _ _
    cases u with
    | nil => rfl
    | cons b t => unfold lsc; rw [if_neg (by simp)]; simp [lss]
  | cons a s ih =>
    intro u hs hu
    cases u with
    | nil => unfold lsc; rw [if_neg (by simp)]; simp [lss]
    | cons b t =>
      have h9 := al_plc a (hs a (by simp)) b (hu b (by simp))
      show lsc (a :: s) (b :: t) = if plc a = plc b then lss s t else decide (plc a < plc b)
      by_cases h : a = b
      · rw [if_pos (h9.1.mpr h), ← ih t (fun c hc => hs c (List.mem_cons_of_mem _ hc)) (fun c hc => hu c (List.mem_cons_of_mem _ hc))]
        have e1 : fdif (a :: s) (b :: t) = fdif s t + 1 := by show (if a = b then fdif s t + 1 else 0) = _; rw [if_pos h]
        unfold lsc
        rw [e1]
        simp only [List.length_cons, Nat.add_lt_add_iff_right, List.getD_cons_succ]
      · rw [if_neg (fun z => h (h9.1.mp z))]
        have e1 : fdif (a :: s) (b :: t) = 0 := by show (if a = b then fdif s t + 1 else 0) = _; rw [if_neg h]
        unfold lsc
        rw [e1, if_pos (by simp)]
        simp only [List.getD_cons_zero]
        rw [Bool.eq_iff_iff, decide_eq_true_eq, decide_eq_true_eq]
        exact h9.2.1
theorem oks_take {s : List Int32} (h : oks s) (n : Nat) : oks (s.take n) := fun c hc => h c (List.mem_of_mem_take hc)
theorem oks_drop {s : List Int32} (h : oks s) (n : Nat) : oks (s.drop n) := fun c hc => h c (List.mem_of_mem_drop hc)
theorem oks_app {s t : List Int32} (h : oks s) (ht : oks t) : oks (s ++ t) := fun c hc => (List.mem_append.mp hc).elim (h c) (ht c)
theorem oks_str {r s : List Int32} {b e9 : Nat} (h : oks r) (hs : str r b e9 s) : oks s := by rw [hs.2.2]; exact oks_take (oks_drop h b) _
theorem oks_fld {r : List Int32} (sep : Int32) (h : oks r) (k : Nat) : oks (fld sep r k) := oks_str h (eS sep r k)
section NL
variable {l : Launch} {D : va_G} {tys : List (ClassId × FieldType)} {z0 : Nat} {A : Nat → Prop} {σ0 : Type} {pic0 : σ0 → Heap → Prop} {cI cJ : ClassId} {ad al : Nat → Nat} {y0 : σ0} {X : Nat → Nat → Int32} {Y : Nat → Nat → Int64} {sep : Int32} {r : List Int32}
set_option maxRecDepth 100000 in
set_option maxHeartbeats 8000000 in
theorem n_isLess (ht1 : tys[1]? = some (cI, .int)) (hR : nT 0 X r) (hg : X 5 0 = sep) (hok : oks r) {k1 k2 : Nat} (hk1 : k1 ≤ 12) (hk2 : k2 ≤ 12) : ct D tys z0 A (picN pic0 cI cJ ad al A) l yL_isLess wsL_isLess (rmL 2 49) [.ref (ad 0), .ref (ad 5), .int (nI k1), .int (nI k2)] (y0, X, Y) (qI (picN pic0 cI cJ ad al A) A (fun q x => x = (y0, X, Y) ∧ q = bI (lessT (fld sep r k1) (fld sep r k2)))) := by
  obtain ⟨b1, hb1⟩ : ∃ b1, eB sep r k1 = b1 := ⟨_, rfl⟩
  obtain ⟨e1, he1⟩ : ∃ e1, eE sep r k1 = e1 := ⟨_, rfl⟩
  obtain ⟨b2, hb2⟩ : ∃ b2, eB sep r k2 = b2 := ⟨_, rfl⟩
  obtain ⟨e2, he2⟩ : ∃ e2, eE sep r k2 = e2 := ⟨_, rfl⟩
  obtain ⟨t, ht⟩ : ∃ t, fld sep r k1 = t := ⟨_, rfl⟩
  obtain ⟨u, hu⟩ : ∃ u, fld sep r k2 = u := ⟨_, rfl⟩
  have hs1 := eS sep r k1
  have hs2 := eS sep r k2
  rw [hb1, he1, ht] at hs1
  rw [hb2, he2, hu] at hs2
  rw [ht, hu]
  have hl1 := str_len hs1
  have hl2 := str_len hs2
  have h60 := hR.2.1
  have q1 := hs1.1
  have q2 := hs1.2.1
  have q3 := hs2.1
  have q4 := hs2.2.1
  have ok1 : oks t := oks_str hok hs1
  have ok2 : oks u := oks_str hok hs2
  refine ct_of RL (by decide +kernel) rfl rfl (Nat.le_of_ble_eq_true rfl) ?_
  intro p e s m below meth c C hr hm
  refine v_lv (lv' := [(0, _), (1, _), (2, _), (3, _)]) rfl ?_
  refine v_aload_n C dL_isLess_0 (j := 0) rfl rfl ?_
  refine v_aload_n C dL_isLess_1 (j := 1) rfl rfl ?_
  refine v_iload_n C dL_isLess_2 (j := 2) rfl rfl ?_
  refine v_iconst C dL_isLess_3 (v := 0) (by decide) ?_
  refine v_ci (v_runS C (n_edB ht1 hR hg hk1) (va_cwS 4 C.1.2.2.2.2 gL_isLess_L_edge rfl rfl rfl (by decide +kernel) ⟨Nat.le_of_ble_eq_true rfl, Nat.le_of_ble_eq_true rfl⟩) rfl dL_isLess_4 (rest := []) (Nat.le_of_ble_eq_true rfl) rfl ⟨(by first | exact Nat.le_of_ble_eq_true rfl | (dsimp only; omega)), (by first | exact Nat.le_of_ble_eq_true rfl | (dsimp only; omega))⟩) (fun q x' hx' => ?_)
  obtain ⟨rfl, rfl⟩ := hx'
  rw [hb1]
  refine v_istore C dL_isLess_7 (by decide) (lv' := [(4, _), (0, _), (1, _), (2, _), (3, _)]) rfl ?_
  refine v_aload_n C dL_isLess_9 (j := 1) rfl rfl ?_
  refine v_aload_n C dL_isLess_10 (j := 2) rfl rfl ?_
  refine v_iload_n C dL_isLess_11 (j := 3) rfl rfl ?_
  refine v_iconst C dL_isLess_12 (v := 1) (by decide) ?_
  refine v_ci (v_runS C (n_edE ht1 hR hg hk1) (va_cwS 4 C.1.2.2.2.2 gL_isLess_L_edge rfl rfl rfl (by decide +kernel) ⟨Nat.le_of_ble_eq_true rfl, Nat.le_of_ble_eq_true rfl⟩) rfl dL_isLess_13 (rest := []) (Nat.le_of_ble_eq_true rfl) rfl ⟨(by first | exact Nat.le_of_ble_eq_true rfl | (dsimp only; omega)), (by first | exact Nat.le_of_ble_eq_true rfl | (dsimp only; omega))⟩) (fun q x' hx' => ?_)
  obtain ⟨rfl, rfl⟩ := hx'
  rw [he1]
  refine v_istore C dL_isLess_16 (by decide) (lv' := [(5, _), (4, _), (0, _), (1, _), (2, _), (3, _)]) rfl ?_
  refine v_aload_n C dL_isLess_18 (j := 2) rfl rfl ?_
  refine v_aload_n C dL_isLess_19 (j := 3) rfl rfl ?_
  refine v_iload_n C dL_isLess_20 (j := 5) rfl rfl ?_
  refine v_iconst C dL_isLess_21 (v := 0) (by decide) ?_
  refine v_ci (v_runS C (n_edB ht1 hR hg hk2) (va_cwS 4 C.1.2.2.2.2 gL_isLess_L_edge rfl rfl rfl (by decide +kernel) ⟨Nat.le_of_ble_eq_true rfl, Nat.le_of_ble_eq_true rfl⟩) rfl dL_isLess_22 (rest := []) (Nat.le_of_ble_eq_true rfl) rfl ⟨(by first | exact Nat.le_of_ble_eq_true rfl | (dsimp only; omega)), (by first | exact Nat.le_of_ble_eq_true rfl | (dsimp only; omega))⟩) (fun q x' hx' => ?_)
  obtain ⟨rfl, rfl⟩ := hx'
  rw [hb2]
  refine v_istore C dL_isLess_25 (by decide) (lv' := [(6, _), (5, _), (4, _), (0, _), (1, _), (2, _), (3, _)]) rfl ?_
  refine v_aload_n C dL_isLess_27 (j := 3) rfl rfl ?_
  refine v_aload_n C dL_isLess_28 (j := 4) rfl rfl ?_
  refine v_iload_n C dL_isLess_29 (j := 6) rfl rfl ?_
  refine v_iconst C dL_isLess_30 (v := 1) (by decide) ?_
  refine v_ci (v_runS C (n_edE ht1 hR hg hk2) (va_cwS 4 C.1.2.2.2.2 gL_isLess_L_edge rfl rfl rfl (by decide +kernel) ⟨Nat.le_of_ble_eq_true rfl, Nat.le_of_ble_eq_true rfl⟩) rfl dL_isLess_31 (rest := []) (Nat.le_of_ble_eq_true rfl) rfl ⟨(by first | exact Nat.le_of_ble_eq_true rfl | (dsimp only; omega)), (by first | exact Nat.le_of_ble_eq_true rfl | (dsimp only; omega))⟩) (fun q x' hx' => ?_)
  obtain ⟨rfl, rfl⟩ := hx'
  rw [he2]
  refine v_istore C dL_isLess_34 (by decide) (lv' := [(7, _), (6, _), (5, _), (4, _), (0, _), (1, _), (2, _), (3, _)]) rfl ?_
  refine v_cut0 (pcj := 83) (lvj := [(4, .int (nI b1)), (5, .int (nI e1)), (6, .int (nI b2)), (7, .int (nI e2)), (0, .ref (ad 0))]) (stj := []) ((isNum t && isNum u) = false) (fun hw => ?_) (fun K => ?_)
  · skip
    have eL : lessT t u = lss t u := by rw [← lsc_eq t u ok1 ok2]; unfold lessT lsc; rw [if_neg (by rw [hw]; decide)]
    refine v_iconst C dL_isLess_83 (v := 0) (by decide) ?_
    refine v_istore C dL_isLess_84 (by decide) (lv' := [(8, _), (4, _), (5, _), (6, _), (7, _), (0, _)]) rfl ?_
    obtain ⟨i, hi, hls, hi1, hi2⟩ : ∃ i : Nat, i = 0 ∧ lessT t u = lss (t.drop i) (u.drop i) ∧ i ≤ t.length ∧ i ≤ u.length := ⟨0, rfl, by rw [eL, List.drop_zero, List.drop_zero], by omega, by omega⟩
    refine v_lv (lv' := [(8, .int (nI i)), (4, _), (5, _), (6, _), (7, _), (0, _)]) (by rw [hi]; rfl) ?_
    clear hi eL
    induction hd : (t.length - i) using Nat.strongRecOn generalizing i with | _ d ih =>
      refine v_cut0 (pcj := 106) (lvj := [(8, .int (nI i)), (4, .int (nI b1)), (5, .int (nI e1)), (6, .int (nI b2)), (7, .int (nI e2)), (0, .ref (ad 0))]) (stj := []) (i < t.length ∨ i < u.length) (fun hw2 => ?_) (fun K2 => ?_)
      · skip
        refine v_cut (pcj := 130) (lvj := [(8, .int (nI i)), (4, .int (nI b1)), (5, .int (nI e1)), (6, .int (nI b2)), (7, .int (nI e2)), (0, .ref (ad 0))]) (stj := []) (fun w => w = (if i < t.length then plc (t.getD i 0) else 0)) (fun w hw => ?_) (fun K => ?_)
        · skip
          subst hw
          refine v_istore C dL_isLess_130 (by decide) (lv' := [(9, _), (8, _), (4, _), (5, _), (6, _), (7, _), (0, _)]) rfl ?_
          refine v_cut (pcj := 156) (lvj := [(9, .int (if i < t.length then plc (t.getD i 0) else 0)), (8, .int (nI i)), (4, .int (nI b1)), (5, .int (nI e1)), (6, .int (nI b2)), (7, .int (nI e2)), (0, .ref (ad 0))]) (stj := []) (fun w => w = (if i < u.length then plc (u.getD i 0) else 0)) (fun w hw => ?_) (fun K => ?_)
          · skip
            subst hw
            refine v_istore C dL_isLess_156 (by decide) (lv' := [(10, _), (9, _), (8, _), (4, _), (5, _), (6, _), (7, _), (0, _)]) rfl ?_
            refine v_iload C dL_isLess_158 (j := 1) rfl ?_
            refine v_iload C dL_isLess_160 (j := 0) rfl ?_
            refine v_icmp_eq C 178 dL_isLess_162 (by decide) (fun c1 => ?_) (fun c1 => ?_)
            · skip
              have c2 : i < t.length ∧ i < u.length := by
                  by_cases z1 : i < t.length
                  · by_cases z2 : i < u.length
                    · exact ⟨z1, z2⟩
                    · rw [if_pos z1, if_neg z2] at c1
                      exact absurd c1 (al_plc _ (oks_getD ok1 z1) _ (oks_getD ok1 z1)).2.2.1
                  · have z2 : i < u.length := by rcases hw2 with z | z; exact absurd z z1; exact z
                    rw [if_neg z1, if_pos z2] at c1
                    exact absurd c1.symm (al_plc _ (oks_getD ok2 z2) _ (oks_getD ok2 z2)).2.2.1
              rw [if_pos c2.1, if_pos c2.2] at c1
              refine v_iinc C dL_isLess_178 (j := 2) (v := _ + 1) rfl rfl (by decide) (lv' := [(8, _), (10, _), (9, _), (4, _), (5, _), (6, _), (7, _), (0, _)]) rfl ?_
              refine v_goto C 86 dL_isLess_181 (by decide) ?_
              rw [nI_1]
              refine v_sub [0, 3, 4, 5, 6, 7] rfl ?_
              refine v_lv (lv' := [(8, .int (nI (i + 1))), (4, .int (nI b1)), (5, .int (nI e1)), (6, .int (nI b2)), (7, .int (nI e2)), (0, .ref (ad 0))]) rfl ?_
              exact ih (t.length - (i + 1)) (by omega) (i + 1) (by rw [hls, dropc (0 : Int32) c2.1, dropc (0 : Int32) c2.2]; conv => lhs; unfold lss; rw [if_pos c1]) (by omega) (by omega) rfl
            · skip
              have c3 : lessT t u = decide ((if i < t.length then plc (t.getD i 0) else 0) < (if i < u.length then plc (u.getD i 0) else 0)) := by
                  rw [hls]
                  by_cases z1 : i < t.length
                  · by_cases z2 : i < u.length
                    · rw [if_pos z1, if_pos z2] at c1 ⊢
                      rw [dropc (0 : Int32) z1, dropc (0 : Int32) z2]
                      unfold lss
                      rw [if_neg c1]
                    · rw [if_pos z1, if_neg z2, dropc (0 : Int32) z1, List.drop_eq_nil_of_le (by omega : u.length ≤ i)]
                      exact (decide_eq_false (al_plc _ (oks_getD ok1 z1) _ (oks_getD ok1 z1)).2.2.2.1).symm
                  · have z2 : i < u.length := by rcases hw2 with z | z; exact absurd z z1; exact z
                    rw [if_neg z1, if_pos z2, dropc (0 : Int32) z2, List.drop_eq_nil_of_le (by omega : t.length ≤ i)]
                    exact (decide_eq_true (al_plc _ (oks_getD ok2 z2) _ (oks_getD ok2 z2)).2.2.2.2).symm
              refine v_iload C dL_isLess_165 (j := 1) rfl ?_
              refine v_iload C dL_isLess_167 (j := 0) rfl ?_
              refine v_icmp_ge C 176 dL_isLess_169 (by decide) (fun c4 => ?_) (fun c4 => ?_)
              · skip
                refine v_iconst C dL_isLess_176 (v := 0) (by decide) ?_
                exact v_ireturn C dL_isLess_177 hr (rfl) (Nat.le_of_ble_eq_true rfl) (Nat.le_of_ble_eq_true rfl) (⟨rfl, bI_f (by rw [c3]; exact decide_eq_false (Int32.not_lt.mpr c4))⟩)
              · skip
                refine v_iconst C dL_isLess_172 (v := 1) (by decide) ?_
                refine v_goto C 177 dL_isLess_173 (by decide) ?_
                exact v_ireturn C dL_isLess_177 hr (rfl) (Nat.le_of_ble_eq_true rfl) (Nat.le_of_ble_eq_true rfl) (⟨rfl, bI_t (by rw [c3]; exact decide_eq_true (Int32.not_le.mp c4))⟩)
          · skip
            refine v_iload C dL_isLess_132 (j := 4) rfl ?_
            refine v_iload C dL_isLess_134 (j := 1) rfl ?_
            refine v_iadd C dL_isLess_136 ?_
            rw [nI_add]
            refine v_iload C dL_isLess_137 (j := 5) rfl ?_
            refine v_icmp_ge C 155 dL_isLess_139 (by decide) (fun c1 => ?_) (fun c1 => ?_)
            · skip
              have c2 := le_of c1 (by omega) (by omega)
              refine v_iconst C dL_isLess_155 (v := 0) (by decide) ?_
              exact K _ (by rw [if_neg (by omega)])
            · skip
              have c2 := lt_ofn c1 (by omega) (by omega)
              refine v_aload_n C dL_isLess_142 (j := 6) rfl rfl ?_
              refine v_iload C dL_isLess_143 (j := 4) rfl ?_
              refine v_iload C dL_isLess_145 (j := 1) rfl ?_
              refine v_iadd C dL_isLess_147 ?_
              rw [nI_add]
              refine v_iald C dL_isLess_148 1 ht1 (N_t (j := 0) (by decide)) (vp_in_nI (by show b2 + i < 61; omega) (by decide)) ?_
              refine v_int (b := u.getD i 0) (by rw [nI_clamp (by omega), hR.2.2 _ (by omega), str_get hs2 (by omega)]) ?_
              refine v_ci (v_runS C (n_place (u.getD i 0)) (va_cwS 1 C.1.2.2.2.2 gL_isLess_L_place rfl rfl rfl (by decide +kernel) ⟨Nat.le_of_ble_eq_true rfl, Nat.le_of_ble_eq_true rfl⟩) rfl dL_isLess_149 (rest := []) (Nat.le_of_ble_eq_true rfl) rfl ⟨(by first | exact Nat.le_of_ble_eq_true rfl | (dsimp only; omega)), (by first | exact Nat.le_of_ble_eq_true rfl | (dsimp only; omega))⟩) (fun q x' hx' => ?_)
              obtain ⟨rfl, rfl⟩ := hx'
              refine v_goto C 156 dL_isLess_152 (by decide) ?_
              exact K _ (by rw [if_pos (by omega)])
        · skip
          refine v_iload C dL_isLess_106 (j := 1) rfl ?_
          refine v_iload C dL_isLess_108 (j := 0) rfl ?_
          refine v_iadd C dL_isLess_110 ?_
          rw [nI_add]
          refine v_iload C dL_isLess_111 (j := 2) rfl ?_
          refine v_icmp_ge C 129 dL_isLess_113 (by decide) (fun c1 => ?_) (fun c1 => ?_)
          · skip
            have c2 := le_of c1 (by omega) (by omega)
            refine v_iconst C dL_isLess_129 (v := 0) (by decide) ?_
            exact K _ (by rw [if_neg (by omega)])
          · skip
            have c2 := lt_ofn c1 (by omega) (by omega)
            refine v_aload_n C dL_isLess_116 (j := 5) rfl rfl ?_
            refine v_iload C dL_isLess_117 (j := 1) rfl ?_
            refine v_iload C dL_isLess_119 (j := 0) rfl ?_
            refine v_iadd C dL_isLess_121 ?_
            rw [nI_add]
            refine v_iald C dL_isLess_122 1 ht1 (N_t (j := 0) (by decide)) (vp_in_nI (by show b1 + i < 61; omega) (by decide)) ?_
            refine v_int (b := t.getD i 0) (by rw [nI_clamp (by omega), hR.2.2 _ (by omega), str_get hs1 (by omega)]) ?_
            refine v_ci (v_runS C (n_place (t.getD i 0)) (va_cwS 1 C.1.2.2.2.2 gL_isLess_L_place rfl rfl rfl (by decide +kernel) ⟨Nat.le_of_ble_eq_true rfl, Nat.le_of_ble_eq_true rfl⟩) rfl dL_isLess_123 (rest := []) (Nat.le_of_ble_eq_true rfl) rfl ⟨(by first | exact Nat.le_of_ble_eq_true rfl | (dsimp only; omega)), (by first | exact Nat.le_of_ble_eq_true rfl | (dsimp only; omega))⟩) (fun q x' hx' => ?_)
            obtain ⟨rfl, rfl⟩ := hx'
            refine v_goto C 130 dL_isLess_126 (by decide) ?_
            exact K _ (by rw [if_pos (by omega)])
      · skip
        refine v_iload C dL_isLess_86 (j := 1) rfl ?_
        refine v_iload C dL_isLess_88 (j := 0) rfl ?_
        refine v_iadd C dL_isLess_90 ?_
        rw [nI_add]
        refine v_iload C dL_isLess_91 (j := 2) rfl ?_
        refine v_icmp_lt C 106 dL_isLess_93 (by decide) (fun c1 => ?_) (fun c1 => ?_)
        · skip
          exact K2 (Or.inl (by have := lt_of c1 (by omega) (by omega); omega))
        · skip
          have c2 := le_ofn c1 (by omega) (by omega)
          refine v_iload C dL_isLess_96 (j := 3) rfl ?_
          refine v_iload C dL_isLess_98 (j := 0) rfl ?_
          refine v_iadd C dL_isLess_100 ?_
          rw [nI_add]
          refine v_iload C dL_isLess_101 (j := 4) rfl ?_
          refine v_icmp_ge C 184 dL_isLess_103 (by decide) (fun c3 => ?_) (fun c3 => ?_)
          · skip
            have c4 := le_of c3 (by omega) (by omega)
            refine v_iconst C dL_isLess_184 (v := 0) (by decide) ?_
            exact v_ireturn C dL_isLess_185 hr (rfl) (Nat.le_of_ble_eq_true rfl) (Nat.le_of_ble_eq_true rfl) (⟨rfl, by rw [hls, List.drop_eq_nil_of_le (by omega : t.length ≤ i), List.drop_eq_nil_of_le (by omega : u.length ≤ i)]; rfl⟩)
          · skip
            exact K2 (Or.inr (by have := lt_ofn c3 (by omega) (by omega); omega))
  · skip
    refine v_aload_n C dL_isLess_36 (j := 4) rfl rfl ?_
    refine v_iload C dL_isLess_37 (j := 3) rfl ?_
    refine v_iload C dL_isLess_39 (j := 2) rfl ?_
    refine v_ci (v_runS C (n_isNumeric (j := 0) ht1 (by decide) hR hs1) (va_cwS 3 C.1.2.2.2.2 gL_isLess_L_isNumeric rfl rfl rfl (by decide +kernel) ⟨Nat.le_of_ble_eq_true rfl, Nat.le_of_ble_eq_true rfl⟩) rfl dL_isLess_41 (rest := []) (Nat.le_of_ble_eq_true rfl) rfl ⟨(by first | exact Nat.le_of_ble_eq_true rfl | (dsimp only; omega)), (by first | exact Nat.le_of_ble_eq_true rfl | (dsimp only; omega))⟩) (fun q x' hx' => ?_)
    obtain ⟨rfl, rfl⟩ := hx'
    refine v_if_eq C 83 dL_isLess_44 (by decide) (fun c1 => ?_) (fun c1 => ?_)
    · skip
      exact v_sub [3, 2, 1, 0, 4] rfl (K (by rw [bI_0 c1]; rfl))
    · skip
      refine v_aload_n C dL_isLess_47 (j := 4) rfl rfl ?_
      refine v_iload C dL_isLess_48 (j := 1) rfl ?_
      refine v_iload C dL_isLess_50 (j := 0) rfl ?_
      refine v_ci (v_runS C (n_isNumeric (j := 0) ht1 (by decide) hR hs2) (va_cwS 3 C.1.2.2.2.2 gL_isLess_L_isNumeric rfl rfl rfl (by decide +kernel) ⟨Nat.le_of_ble_eq_true rfl, Nat.le_of_ble_eq_true rfl⟩) rfl dL_isLess_52 (rest := []) (Nat.le_of_ble_eq_true rfl) rfl ⟨(by first | exact Nat.le_of_ble_eq_true rfl | (dsimp only; omega)), (by first | exact Nat.le_of_ble_eq_true rfl | (dsimp only; omega))⟩) (fun q x' hx' => ?_)
      obtain ⟨rfl, rfl⟩ := hx'
      refine v_if_eq C 83 dL_isLess_55 (by decide) (fun c2 => ?_) (fun c2 => ?_)
      · skip
        exact v_sub [3, 2, 1, 0, 4] rfl (K (by rw [bI_0 c2, Bool.and_false]))
      · skip
        have eL : lessT t u = decide (num t < num u) := by unfold lessT; rw [if_pos (by rw [bI_1 c1, bI_1 c2]; rfl)]
        refine v_aload_n C dL_isLess_58 (j := 4) rfl rfl ?_
        refine v_iload C dL_isLess_59 (j := 3) rfl ?_
        refine v_iload C dL_isLess_61 (j := 2) rfl ?_
        refine v_ci (v_runS C (n_number (j := 0) ht1 (by decide) hR hs1) (va_cwS 3 C.1.2.2.2.2 gL_isLess_L_number rfl rfl rfl (by decide +kernel) ⟨Nat.le_of_ble_eq_true rfl, Nat.le_of_ble_eq_true rfl⟩) rfl dL_isLess_63 (rest := []) (Nat.le_of_ble_eq_true rfl) rfl ⟨(by first | exact Nat.le_of_ble_eq_true rfl | (dsimp only; omega)), (by first | exact Nat.le_of_ble_eq_true rfl | (dsimp only; omega))⟩) (fun q x' hx' => ?_)
        obtain ⟨rfl, rfl⟩ := hx'
        refine v_aload_n C dL_isLess_66 (j := 4) rfl rfl ?_
        refine v_iload C dL_isLess_67 (j := 1) rfl ?_
        refine v_iload C dL_isLess_69 (j := 0) rfl ?_
        refine v_ci (v_runS C (n_number (j := 0) ht1 (by decide) hR hs2) (va_cwS 3 C.1.2.2.2.2 gL_isLess_L_number rfl rfl rfl (by decide +kernel) ⟨Nat.le_of_ble_eq_true rfl, Nat.le_of_ble_eq_true rfl⟩) rfl dL_isLess_71 (rest := [_]) (Nat.le_of_ble_eq_true rfl) rfl ⟨(by first | exact Nat.le_of_ble_eq_true rfl | (dsimp only; omega)), (by first | exact Nat.le_of_ble_eq_true rfl | (dsimp only; omega))⟩) (fun q x' hx' => ?_)
        obtain ⟨rfl, rfl⟩ := hx'
        refine v_icmp_ge C 81 dL_isLess_74 (by decide) (fun c3 => ?_) (fun c3 => ?_)
        · skip
          refine v_iconst C dL_isLess_81 (v := 0) (by decide) ?_
          exact v_ireturn C dL_isLess_82 hr (rfl) (Nat.le_of_ble_eq_true rfl) (Nat.le_of_ble_eq_true rfl) (⟨rfl, bI_f (by rw [eL]; exact decide_eq_false (Int32.not_lt.mpr c3))⟩)
        · skip
          refine v_iconst C dL_isLess_77 (v := 1) (by decide) ?_
          refine v_goto C 82 dL_isLess_78 (by decide) ?_
          exact v_ireturn C dL_isLess_82 hr (rfl) (Nat.le_of_ble_eq_true rfl) (Nat.le_of_ble_eq_true rfl) (⟨rfl, bI_t (by rw [eL]; exact decide_eq_true (Int32.not_le.mp c3))⟩)
end NL
