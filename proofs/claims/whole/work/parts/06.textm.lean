/-! ===== Text: its methods over the picture of texts ===== -/
theorem wfX10_clear_15 : Cond.fieldLink RX10 15 "FieldScribe$Text" (TX10 1).2.1 (TX10 1).2.2.1 ∈ wsX10_clear := by decide +kernel
theorem wiX10_clear_X10 : ∀ w ∈ u_ws RX10 TX10 2, w ∈ wsX10_clear := by decide +kernel
theorem wfX10_at_15 : Cond.fieldLink RX10 15 "FieldScribe$Text" (TX10 1).2.1 (TX10 1).2.2.1 ∈ wsX10_at := by decide +kernel
theorem wiX10_at_X10 : ∀ w ∈ u_ws RX10 TX10 2, w ∈ wsX10_at := by decide +kernel
theorem wfX10_at_9 : Cond.fieldLink RX10 9 "FieldScribe$Text" (TX10 0).2.1 (TX10 0).2.2.1 ∈ wsX10_at := by decide +kernel
theorem wfX10_put_15 : Cond.fieldLink RX10 15 "FieldScribe$Text" (TX10 1).2.1 (TX10 1).2.2.1 ∈ wsX10_put := by decide +kernel
theorem wiX10_put_X10 : ∀ w ∈ u_ws RX10 TX10 2, w ∈ wsX10_put := by decide +kernel
theorem wfX10_put_9 : Cond.fieldLink RX10 9 "FieldScribe$Text" (TX10 0).2.1 (TX10 0).2.2.1 ∈ wsX10_put := by decide +kernel
def rm1 (k : Nat) : Room := { frames := 1, cells := 0, slots := 0, locals := k }
section TM
variable {l : Launch} {D : va_G} {tys : List (ClassId × FieldType)} {z0 : Nat} {A : Nat → Prop} {cC : ClassId} {f : Nat → Option va_E} {ar : Nat → Option Nat} {ln : Nat → Nat} {g : Nat → Nat → Int32} {t a o b : Nat}
set_option maxRecDepth 100000 in
set_option maxHeartbeats 4000000 in
theorem t_clear (h : ar t = some a) : ct D tys z0 A (picT D cC A) l yX10_clear wsX10_clear rm0 [.ref t] (f, ar, ln, g) (qV (picT D cC A) A (fun x => x = (f, ar, va_up ln t 0, g))) := by
  refine ct_of RX10 (by decide +kernel) rfl rfl (Nat.le_of_ble_eq_true rfl) ?_
  intro p e s m below meth c C hr hm
  refine v_lv (lv' := [(0, _)]) rfl ?_
  refine v_aload_n C dX10_clear_0 (j := 0) rfl rfl ?_
  refine v_iconst C dX10_clear_1 (v := 0) (by decide) ?_
  refine v_put C (ci := 10) (j := 1) (ty := .int) dX10_clear_2 wiX10_clear_X10 tyX10 tyX10_ok nmX10 rfl (by decide) wfX10_clear_15 (fun _ h => h) rfl rfl (rfl) (rfl) (T_setlen h (Nat.zero_le _)) ?_
  exact v_return C dX10_clear_5 hr (Nat.le_of_ble_eq_true rfl) (Nat.le_of_ble_eq_true rfl) (rfl)
set_option maxRecDepth 100000 in
set_option maxHeartbeats 4000000 in
theorem t_at (ht : tys[0]? = some (cC, .char)) (h : ar t = some a) (hch : ∀ j, j < ln t → ch (g t j)) (i : Int32) : ct D tys z0 A (picT D cC A) l yX10_at wsX10_at rm0 [.ref t, .int i] (f, ar, ln, g) (qI (picT D cC A) A (fun r x => x = (f, ar, ln, g) ∧ r = if 0 ≤ i ∧ i < nI (ln t) then g t i.toNatClampNeg else 32)) := by
  refine ct_of RX10 (by decide +kernel) rfl rfl (Nat.le_of_ble_eq_true rfl) ?_
  intro p e s m below meth c C hr hm
  refine v_lv (lv' := [(0, _), (1, _)]) rfl ?_
  refine v_use (fun H hP => T_le h hP) (fun hle => ?_)
  refine v_iload_n C dX10_at_0 (j := 1) rfl rfl ?_
  refine v_if_lt C 21 dX10_at_1 (by decide) (fun c1 => ?_) (fun c1 => ?_)
  · skip
    refine v_bipush C dX10_at_21 (v := 32) (by decide) ?_
    exact v_ireturn C dX10_at_23 hr (rfl) (Nat.le_of_ble_eq_true rfl) (Nat.le_of_ble_eq_true rfl) (⟨rfl, by rw [if_neg (fun z => ?_)]⟩)
  · skip
    refine v_iload_n C dX10_at_4 (j := 1) rfl rfl ?_
    refine v_aload_n C dX10_at_5 (j := 0) rfl rfl ?_
    refine v_get C (ci := 10) (j := 1) dX10_at_6 wiX10_at_X10 rfl (by decide) wfX10_at_15 (fun _ h => h) (T_len h) ?_
    refine v_icmp_ge C 21 dX10_at_9 (by decide) (fun c2 => ?_) (fun c2 => ?_)
    · skip
      refine v_bipush C dX10_at_21 (v := 32) (by decide) ?_
      exact v_ireturn C dX10_at_23 hr (rfl) (Nat.le_of_ble_eq_true rfl) (Nat.le_of_ble_eq_true rfl) (⟨rfl, by rw [if_neg (fun z => ?_)]⟩)
    · skip
      obtain ⟨j, hj, rfl⟩ := nI_of c1
      refine v_aload_n C dX10_at_12 (j := 0) rfl rfl ?_
      refine v_get C (ci := 10) (j := 0) dX10_at_13 wiX10_at_X10 rfl (by decide) wfX10_at_9 (fun _ h => h) (T_sig h) ?_
      refine v_iload_n C dX10_at_16 (j := 1) rfl rfl ?_
      refine v_cald C dX10_at_17 0 ht (T_row h) (vp_in_nI (by sorry) (by decide)) ?_
      refine v_goto C 23 dX10_at_18 (by decide) ?_
      exact v_ireturn C dX10_at_23 hr (sorry) (Nat.le_of_ble_eq_true rfl) (Nat.le_of_ble_eq_true rfl) (⟨rfl, by sorry⟩)
set_option maxRecDepth 100000 in
set_option maxHeartbeats 4000000 in
theorem t_put (ht : tys[0]? = some (cC, .char)) (h : ar t = some a) {c0 : Int32} (hc : ch c0) : ct D tys z0 A (picT D cC A) l yX10_put wsX10_put rm0 [.ref t, .int c0] (f, ar, ln, g) (qV (picT D cC A) A (fun x => x = if ln t < 60 then (f, ar, va_up ln t (ln t + 1), va_up g t (upd (g t) (ln t) c0)) else (f, ar, ln, g))) := by
  refine ct_of RX10 (by decide +kernel) rfl rfl (Nat.le_of_ble_eq_true rfl) ?_
  intro p e s m below meth c C hr hm
  refine v_lv (lv' := [(0, _), (1, _)]) rfl ?_
  refine v_use (fun H hP => T_le h hP) (fun hle => ?_)
  refine v_aload_n C dX10_put_0 (j := 0) rfl rfl ?_
  refine v_get C (ci := 10) (j := 1) dX10_put_1 wiX10_put_X10 rfl (by decide) wfX10_put_15 (fun _ h => h) (T_len h) ?_
  refine v_aload_n C dX10_put_4 (j := 0) rfl rfl ?_
  refine v_get C (ci := 10) (j := 0) dX10_put_5 wiX10_put_X10 rfl (by decide) wfX10_put_9 (fun _ h => h) (T_sig h) ?_
  refine v_alen C (v := nI 60) dX10_put_8 0 ht (T_row h) rfl ?_
  refine v_icmp_ge C 32 dX10_put_9 (by decide) (fun c1 => ?_) (fun c1 => ?_)
  · skip
    have c2 := (nI_leI (by decide) (by omega)).mp c1
    exact v_return C dX10_put_32 hr (Nat.le_of_ble_eq_true rfl) (Nat.le_of_ble_eq_true rfl) ((if_neg (by omega)).symm)
  · skip
    have c2 : ln t < 60 := by
      rcases Nat.lt_or_ge (ln t) 60 with q | q
      · exact q
      · exact absurd (nI_le q (by omega)) c1
    refine v_aload_n C dX10_put_12 (j := 0) rfl rfl ?_
    refine v_get C (ci := 10) (j := 0) dX10_put_13 wiX10_put_X10 rfl (by decide) wfX10_put_9 (fun _ h => h) (T_sig h) ?_
    refine v_aload_n C dX10_put_16 (j := 0) rfl rfl ?_
    refine v_get C (ci := 10) (j := 1) dX10_put_17 wiX10_put_X10 rfl (by decide) wfX10_put_15 (fun _ h => h) (T_len h) ?_
    refine v_iload_n C dX10_put_20 (j := 1) rfl rfl ?_
    refine v_cast C dX10_put_21 0 ht (vp_in_nI c2 (by decide)) (T_setrow h _) ?_
    rw [nI_clamp (by omega), ch_nar hc]
    refine v_aload_n C dX10_put_22 (j := 0) rfl rfl ?_
    refine v_dup C dX10_put_23 rfl ?_
    refine v_get C (ci := 10) (j := 1) dX10_put_24 wiX10_put_X10 rfl (by decide) wfX10_put_15 (fun _ h => h) (T_len h) ?_
    refine v_iconst C dX10_put_27 (v := 1) (by decide) ?_
    refine v_iadd C dX10_put_28 ?_
    rw [nI_1]
    refine v_put C (ci := 10) (j := 1) (ty := .int) dX10_put_29 wiX10_put_X10 tyX10 tyX10_ok nmX10 rfl (by decide) wfX10_put_15 (fun _ h => h) rfl rfl (rfl) (rfl) (T_setlen h (by omega)) ?_
    exact v_return C dX10_put_32 hr (Nat.le_of_ble_eq_true rfl) (Nat.le_of_ble_eq_true rfl) ((if_pos c2).symm)
end TM
