/-! ===== Printout: the last 40 lines, in a ring ===== -/
theorem wfX5_get_18 : Cond.fieldLink RX5 18 "FieldScribe$Printout" (TX5 1).2.1 (TX5 1).2.2.1 ∈ wsX5_get := by decide +kernel
theorem wiX5_get_X5 : ∀ w ∈ u_ws RX5 TX5 3, w ∈ wsX5_get := by decide +kernel
theorem wfX5_get_11 : Cond.fieldLink RX5 11 "FieldScribe$Printout" (TX5 0).2.1 (TX5 0).2.2.1 ∈ wsX5_get := by decide +kernel
theorem wfX5_print_22 : Cond.fieldLink RX5 22 "FieldScribe$Printout" (TX5 2).2.1 (TX5 2).2.2.1 ∈ wsX5_print := by decide +kernel
theorem wiX5_print_X5 : ∀ w ∈ u_ws RX5 TX5 3, w ∈ wsX5_print := by decide +kernel
theorem wfX5_print_11 : Cond.fieldLink RX5 11 "FieldScribe$Printout" (TX5 0).2.1 (TX5 0).2.2.1 ∈ wsX5_print := by decide +kernel
theorem wfX5_print_18 : Cond.fieldLink RX5 18 "FieldScribe$Printout" (TX5 1).2.1 (TX5 1).2.2.1 ∈ wsX5_print := by decide +kernel
def poE (ra : Nat) (st cnt : Nat) : Option va_E := some (.inr (5, [.ref ra, .int (nI st), .int (nI cnt)]))
/-- the ring's texts are there, apart; the lines ls from place st on -/
def ringA (f : Nat → Option va_E) (cT : ClassId) (ra : Nat) (q : Nat → Nat) : Prop := ∃ rf : Nat → Option Nat, f ra = some (.inl (cT, 40, .inr (.inr (.inr (.inr rf))))) ∧ ∀ k, k < 40 → rf k = some (q k)
def ringD (q : Nat → Nat) : Prop := ∀ i j, i < 40 → j < 40 → q i = q j → i = j
def ringT (T : Nat → Option (List Int32)) (q : Nat → Nat) (st : Nat) (ls : List (List Int32)) : Prop := st < 40 ∧ ls.length ≤ 40 ∧ (∀ k, k < 40 → ∃ s, T (q k) = some s) ∧ ∀ i, i < ls.length → T (q ((st + i) % 40)) = some (ls.getD i [])
/-- one line more, the first one goes if there are 40 -/
def addL (ls : List (List Int32)) (v : List Int32) : List (List Int32) := if ls.length < 40 then ls ++ [v] else ls.drop 1 ++ [v]
theorem addL_len {ls : List (List Int32)} (h : ls.length ≤ 40) (v : List Int32) : (addL ls v).length = if ls.length < 40 then ls.length + 1 else 40 := by
  unfold addL
  split
  · simp
  · simp; omega
section PO
variable {l : Launch} {D : va_G} {tys : List (ClassId × FieldType)} {z0 : Nat} {A : Nat → Prop} {cC cT : ClassId} {f : Nat → Option va_E} {T : Nat → Option (List Int32)} {po ra t : Nat} {q : Nat → Nat} {v : List Int32}
set_option maxRecDepth 100000 in
set_option maxHeartbeats 4000000 in
theorem k_oget (ht4 : tys[4]? = some (cT, .object RX10)) {st cnt : Nat} (hpo : f po = poE ra st cnt) (hra : ringA f cT ra q) (hst : st < 40) {i : Nat} (hi : i < 40) : ct D tys z0 A (picF D cC A) l yX5_get wsX5_get rm0 [.ref po, .int (nI i)] (f, T) (qR (picF D cC A) A (fun r x => x = (f, T) ∧ r = q ((st + i) % 40))) := by
  refine ct_of RX5 (by decide +kernel) rfl rfl (Nat.le_of_ble_eq_true rfl) ?_
  intro p e s m below meth c C hr hm
  refine v_lv (lv' := [(0, _), (1, _)]) rfl ?_
  obtain ⟨rf, hra1, hrf⟩ := hra
  have hm : (st + i) % 40 < 40 := Nat.mod_lt _ (by decide)
  refine v_aload_n C dX5_get_0 (j := 0) rfl rfl ?_
  refine v_get C (T := TX5) (ci := 5) (j := 1) dX5_get_1 wiX5_get_X5 rfl (by decide) wfX5_get_18 (fun _ h => h) (FF_get hpo rfl) ?_
  refine v_iload_n C dX5_get_4 (j := 1) rfl rfl ?_
  refine v_iadd C dX5_get_5 ?_
  refine v_bipush C dX5_get_6 (v := 40) (by decide) ?_
  refine v_irem C dX5_get_8 (by decide) ?_
  refine v_int (b := nI ((st + i) % 40)) (by rw [nI_add]; exact pk_rem (d := 40) (by omega) (by decide) (by decide)) ?_
  refine v_istore_n C dX5_get_9 rfl (by decide) (lv' := [(2, _), (0, _), (1, _)]) rfl ?_
  refine v_aload_n C dX5_get_10 (j := 1) rfl rfl ?_
  refine v_get C (T := TX5) (ci := 5) (j := 0) dX5_get_11 wiX5_get_X5 rfl (by decide) wfX5_get_11 (fun _ h => h) (FF_get hpo rfl) ?_
  refine v_iload_n C dX5_get_14 (j := 0) rfl rfl ?_
  refine v_if_lt C 22 dX5_get_15 (by decide) (fun c1 => absurd c1 (by intro; exact (Int32.not_lt.mpr (nI_pos' (by omega))) c1)) (fun c1 => ?_)
  refine v_iload_n C dX5_get_18 (j := 0) rfl rfl ?_
  refine v_goto C 23 dX5_get_19 (by decide) ?_
  refine v_aald C dX5_get_23 4 ht4 (FF_arr hra1) (vp_in_nI hm (by decide)) (w := some (q ((st + i) % 40))) (by rw [nI_clamp (by omega)]; exact hrf _ hm) ?_
  refine v_eq (w := .ref (q ((st + i) % 40))) rfl ?_
  exact v_areturn C dX5_get_24 hr (Or.inl ⟨_, rfl⟩) (Nat.le_of_ble_eq_true rfl) (Nat.le_of_ble_eq_true rfl) (⟨rfl, rfl⟩)
theorem ring_add {T : Nat → Option (List Int32)} {st : Nat} {ls : List (List Int32)} (hD : ringD q) (h : ringT T q st ls) (hl : ls.length < 40) : ringT (va_up T (q ((st + ls.length) % 40)) (some v)) q st (addL ls v) := by
  obtain ⟨h1, h2, h3, h4⟩ := h
  have e1 : addL ls v = ls ++ [v] := by unfold addL; rw [if_pos hl]
  rw [e1]
  refine ⟨h1, by simp; omega, fun k hk => ?_, fun i hi => ?_⟩
  · by_cases hk2 : q k = q ((st + ls.length) % 40)
    · rw [hk2, va_up_same]; exact ⟨_, rfl⟩
    · rw [va_up_other _ _ _ hk2]; exact h3 k hk
  · simp only [List.length_append, List.length_singleton] at hi
    by_cases hi2 : i = ls.length
    · rw [hi2, va_up_same]; simp
    · rw [va_up_other _ _ _ (fun z => hi2 (by have := hD _ _ (Nat.mod_lt _ (by decide)) (Nat.mod_lt _ (by decide)) z; omega)), h4 i (by omega)]
      simp only [List.getD_eq_getElem?_getD]
      rw [List.getElem?_append_left (by omega)]
theorem ring_shift {T : Nat → Option (List Int32)} {st : Nat} {ls : List (List Int32)} (hD : ringD q) (h : ringT T q st ls) (hl : ls.length = 40) : ringT (va_up T (q (((st + 1) % 40 + 39) % 40)) (some v)) q ((st + 1) % 40) (addL ls v) := by
  obtain ⟨h1, h2, h3, h4⟩ := h
  have e1 : addL ls v = ls.drop 1 ++ [v] := by unfold addL; rw [if_neg (by omega)]
  rw [e1]
  refine ⟨Nat.mod_lt _ (by decide), by simp; omega, fun k hk => ?_, fun i hi => ?_⟩
  · by_cases hk2 : q k = q (((st + 1) % 40 + 39) % 40)
    · rw [hk2, va_up_same]; exact ⟨_, rfl⟩
    · rw [va_up_other _ _ _ hk2]; exact h3 k hk
  · simp only [List.length_append, List.length_singleton, List.length_drop] at hi
    by_cases hi2 : i = 39
    · rw [hi2, va_up_same]
      simp only [List.getD_eq_getElem?_getD]
      rw [List.getElem?_append_right (by simp; omega)]
      simp [hl]
    · have e2 : ((st + 1) % 40 + i) % 40 = (st + (i + 1)) % 40 := by omega
      rw [e2, va_up_other _ _ _ (fun z => by have := hD _ _ (Nat.mod_lt _ (by decide)) (Nat.mod_lt _ (by decide)) z; omega), h4 (i + 1) (by omega)]
      simp only [List.getD_eq_getElem?_getD]
      rw [List.getElem?_append_left (by simp; omega), List.getElem?_drop, Nat.add_comm 1 i]
set_option maxRecDepth 100000 in
set_option maxHeartbeats 4000000 in
theorem k_print (ht : tys[0]? = some (cC, .char)) (ht4 : tys[4]? = some (cT, .object RX10)) {st : Nat} {ls : List (List Int32)} (hpo : f po = poE ra st ls.length) (hra : ringA f cT ra q) (hD : ringD q) (hT : ringT T q st ls) (ht0 : T t = some v) (htq : ∀ k, k < 40 → t ≠ q k) :
    ct D tys z0 A (picF D cC A) l yX5_print wsX5_print (rmL 1 22) [.ref po, .ref t] (f, T) (qV (picF D cC A) A (fun x => ∃ st' T', x = (va_up f po (poE ra st' (addL ls v).length), T') ∧ ringT T' q st' (addL ls v) ∧ ∀ p, (∀ k, k < 40 → p ≠ q k) → T' p = T p)) := by
  refine ct_of RX5 (by decide +kernel) rfl rfl (Nat.le_of_ble_eq_true rfl) ?_
  intro p e s m below meth c C hr hm
  refine v_lv (lv' := [(0, _), (1, _)]) rfl ?_
  have hT2 := hT
  obtain ⟨h1, h2, h3, h4⟩ := hT2
  have hra2 := hra
  obtain ⟨rf, hra1, hrf⟩ := hra2
  have hne : ra ≠ po := F_ne hra1 hpo (by intro z; cases z)
  refine v_aload_n C dX5_print_0 (j := 0) rfl rfl ?_
  refine v_get C (T := TX5) (ci := 5) (j := 2) dX5_print_1 wiX5_print_X5 rfl (by decide) wfX5_print_22 (fun _ h => h) (FF_get hpo rfl) ?_
  refine v_aload_n C dX5_print_4 (j := 0) rfl rfl ?_
  refine v_get C (T := TX5) (ci := 5) (j := 0) dX5_print_5 wiX5_print_X5 rfl (by decide) wfX5_print_11 (fun _ h => h) (FF_get hpo rfl) ?_
  refine v_alen C (v := nI 40) dX5_print_8 4 ht4 (FF_arr hra1) rfl ?_
  refine v_icmp_ge C 25 dX5_print_9 (by decide) (fun c1 => ?_) (fun c1 => ?_)
  · skip
    have c2 : ls.length = 40 := by have := le_of (a := 40) c1 (by decide) (by omega); omega
    refine v_aload_n C dX5_print_25 (j := 0) rfl rfl ?_
    refine v_aload_n C dX5_print_26 (j := 0) rfl rfl ?_
    refine v_get C (T := TX5) (ci := 5) (j := 1) dX5_print_27 wiX5_print_X5 rfl (by decide) wfX5_print_18 (fun _ h => h) (FF_get hpo rfl) ?_
    refine v_iconst C dX5_print_30 (v := 1) (by decide) ?_
    refine v_iadd C dX5_print_31 ?_
    refine v_bipush C dX5_print_32 (v := 40) (by decide) ?_
    refine v_irem C dX5_print_34 (by decide) ?_
    refine v_int (b := nI ((st + 1) % 40)) (by rw [nI_1]; exact pk_rem (d := 40) (by omega) (by decide) (by decide)) ?_
    refine v_put C (T := TX5) (ci := 5) (j := 1) (ty := .int) dX5_print_35 wiX5_print_X5 tyX5 tyX5_ok nmX5 rfl (by decide) wfX5_print_18 (fun _ h => h) rfl rfl (rfl) (rfl) (FF_put hpo (Nat.le_of_ble_eq_true rfl)) ?_
    have hpo' : va_up f po (poE ra ((st + 1) % 40) ls.length) po = poE ra ((st + 1) % 40) ls.length := va_up_same _ _ _
    have hra' : ringA (va_up f po (poE ra ((st + 1) % 40) ls.length)) cT ra q := ⟨rf, by rw [va_up_other _ _ _ hne]; exact hra1, hrf⟩
    refine v_aload_n C dX5_print_38 (j := 0) rfl rfl ?_
    refine v_aload_n C dX5_print_39 (j := 0) rfl rfl ?_
    refine v_get C (T := TX5) (ci := 5) (j := 2) dX5_print_40 wiX5_print_X5 rfl (by decide) wfX5_print_22 (fun _ h => h) (FF_get hpo' rfl) ?_
    refine v_iconst C dX5_print_43 (v := 1) (by decide) ?_
    refine v_isub C dX5_print_44 ?_
    refine v_int (b := nI 39) (by rw [c2]; decide) ?_
    refine v_cr (v_runV C (k_oget ht4 hpo' hra' (Nat.mod_lt _ (by decide)) (i := 39) (by decide)) (cwV 1 C.1.2.2.2.2 gX5_print_X5_get rfl rfl rfl (by decide +kernel) ⟨Nat.le_of_ble_eq_true rfl, Nat.le_of_ble_eq_true rfl⟩) rfl rfl ((FF_get hpo' (k := 0) rfl).gC) dX5_print_45 (rest := []) (Nat.le_of_ble_eq_true rfl) rfl ⟨Nat.le_of_ble_eq_true rfl, Nat.le_of_ble_eq_true rfl⟩) (fun r x' hx' => ?_)
    obtain ⟨rfl, rfl⟩ := hx'
    obtain ⟨s9, hs9⟩ := h3 (((st + 1) % 40 + 39) % 40) (Nat.mod_lt _ (by decide))
    refine v_aload_n C dX5_print_48 (j := 1) rfl rfl ?_
    refine v_cv (v_runV C (k_copy ht hs9 ht0 (htq _ (Nat.mod_lt _ (by decide)))) (cwV 1 C.1.2.2.2.2 gX5_print_X10_copy rfl rfl rfl (by decide +kernel) ⟨Nat.le_of_ble_eq_true rfl, Nat.le_of_ble_eq_true rfl⟩) rfl rfl (FF_txt hs9) dX5_print_49 (rest := []) (Nat.le_of_ble_eq_true rfl) rfl ⟨Nat.le_of_ble_eq_true rfl, Nat.le_of_ble_eq_true rfl⟩) (fun x' hx' => ?_)
    subst hx'
    exact v_return C dX5_print_52 hr (Nat.le_of_ble_eq_true rfl) (Nat.le_of_ble_eq_true rfl) (⟨_, _, by rw [show (addL ls v).length = ls.length by rw [addL_len h2, if_neg (by omega), c2]], ring_shift hD hT c2, fun p hp => va_up_other _ _ _ (hp _ (Nat.mod_lt _ (by decide)))⟩)
  · skip
    have c2 : ls.length < 40 := lt_ofn c1 (by decide) (by omega)
    refine v_aload_n C dX5_print_12 (j := 0) rfl rfl ?_
    refine v_dup C dX5_print_13 rfl ?_
    refine v_get C (T := TX5) (ci := 5) (j := 2) dX5_print_14 wiX5_print_X5 rfl (by decide) wfX5_print_22 (fun _ h => h) (FF_get hpo rfl) ?_
    refine v_iconst C dX5_print_17 (v := 1) (by decide) ?_
    refine v_iadd C dX5_print_18 ?_
    rw [nI_1]
    refine v_put C (T := TX5) (ci := 5) (j := 2) (ty := .int) dX5_print_19 wiX5_print_X5 tyX5 tyX5_ok nmX5 rfl (by decide) wfX5_print_22 (fun _ h => h) rfl rfl (rfl) (rfl) (FF_put hpo (Nat.le_of_ble_eq_true rfl)) ?_
    have hpo' : va_up f po (poE ra st (ls.length + 1)) po = poE ra st (ls.length + 1) := va_up_same _ _ _
    have hra' : ringA (va_up f po (poE ra st (ls.length + 1))) cT ra q := ⟨rf, by rw [va_up_other _ _ _ hne]; exact hra1, hrf⟩
    refine v_goto C 38 dX5_print_22 (by decide) ?_
    refine v_aload_n C dX5_print_38 (j := 0) rfl rfl ?_
    refine v_aload_n C dX5_print_39 (j := 0) rfl rfl ?_
    refine v_get C (T := TX5) (ci := 5) (j := 2) dX5_print_40 wiX5_print_X5 rfl (by decide) wfX5_print_22 (fun _ h => h) (FF_get hpo' rfl) ?_
    refine v_iconst C dX5_print_43 (v := 1) (by decide) ?_
    refine v_isub C dX5_print_44 ?_
    refine v_int (b := nI ls.length) (nI_pred _) ?_
    refine v_cr (v_runV C (k_oget ht4 hpo' hra' h1 c2) (cwV 1 C.1.2.2.2.2 gX5_print_X5_get rfl rfl rfl (by decide +kernel) ⟨Nat.le_of_ble_eq_true rfl, Nat.le_of_ble_eq_true rfl⟩) rfl rfl ((FF_get hpo' (k := 0) rfl).gC) dX5_print_45 (rest := []) (Nat.le_of_ble_eq_true rfl) rfl ⟨Nat.le_of_ble_eq_true rfl, Nat.le_of_ble_eq_true rfl⟩) (fun r x' hx' => ?_)
    obtain ⟨rfl, rfl⟩ := hx'
    obtain ⟨s9, hs9⟩ := h3 ((st + ls.length) % 40) (Nat.mod_lt _ (by decide))
    refine v_aload_n C dX5_print_48 (j := 1) rfl rfl ?_
    refine v_cv (v_runV C (k_copy ht hs9 ht0 (htq _ (Nat.mod_lt _ (by decide)))) (cwV 1 C.1.2.2.2.2 gX5_print_X10_copy rfl rfl rfl (by decide +kernel) ⟨Nat.le_of_ble_eq_true rfl, Nat.le_of_ble_eq_true rfl⟩) rfl rfl (FF_txt hs9) dX5_print_49 (rest := []) (Nat.le_of_ble_eq_true rfl) rfl ⟨Nat.le_of_ble_eq_true rfl, Nat.le_of_ble_eq_true rfl⟩) (fun x' hx' => ?_)
    subst hx'
    exact v_return C dX5_print_52 hr (Nat.le_of_ble_eq_true rfl) (Nat.le_of_ble_eq_true rfl) (⟨_, _, by rw [show (addL ls v).length = ls.length + 1 by rw [addL_len h2, if_pos c2]], ring_add hD hT c2, fun p hp => va_up_other _ _ _ (hp _ (Nat.mod_lt _ (by decide)))⟩)
end PO
