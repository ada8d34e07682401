/-! ===== the reference: fields as stretches of the record ===== -/
theorem wfX12_from_88 : Cond.fieldLink RX12 88 "FieldScribeModel" (TX12 3).2.1 (TX12 3).2.2.1 ∈ wsX12_from := by decide +kernel
theorem wiX12_from_X12 : ∀ w ∈ u_ws RX12 TX12 34, w ∈ wsX12_from := by decide +kernel
theorem wfX12_from_17 : Cond.fieldLink RX12 17 "FieldScribeModel" (TX12 4).2.1 (TX12 4).2.2.1 ∈ wsX12_from := by decide +kernel
theorem wfX12_to_88 : Cond.fieldLink RX12 88 "FieldScribeModel" (TX12 3).2.1 (TX12 3).2.2.1 ∈ wsX12_to := by decide +kernel
theorem wiX12_to_X12 : ∀ w ∈ u_ws RX12 TX12 34, w ∈ wsX12_to := by decide +kernel
theorem wfX12_to_20 : Cond.fieldLink RX12 20 "FieldScribeModel" (TX12 5).2.1 (TX12 5).2.2.1 ∈ wsX12_to := by decide +kernel
theorem wfX12_to_91 : Cond.fieldLink RX12 91 "FieldScribeModel" (TX12 2).2.1 (TX12 2).2.2.1 ∈ wsX12_to := by decide +kernel
theorem wfX12_cuts_91 : Cond.fieldLink RX12 91 "FieldScribeModel" (TX12 2).2.1 (TX12 2).2.2.1 ∈ wsX12_cuts := by decide +kernel
theorem wiX12_cuts_X12 : ∀ w ∈ u_ws RX12 TX12 34, w ∈ wsX12_cuts := by decide +kernel
theorem wfX12_cuts_88 : Cond.fieldLink RX12 88 "FieldScribeModel" (TX12 3).2.1 (TX12 3).2.2.1 ∈ wsX12_cuts := by decide +kernel
theorem wfX12_cuts_17 : Cond.fieldLink RX12 17 "FieldScribeModel" (TX12 4).2.1 (TX12 4).2.2.1 ∈ wsX12_cuts := by decide +kernel
theorem wfX12_cuts_20 : Cond.fieldLink RX12 20 "FieldScribeModel" (TX12 5).2.1 (TX12 5).2.2.1 ∈ wsX12_cuts := by decide +kernel
theorem wfX12_cuts_13 : Cond.fieldLink RX12 13 "FieldScribeModel" (TX12 1).2.1 (TX12 1).2.2.1 ∈ wsX12_cuts := by decide +kernel
theorem wfX12_cuts_7 : Cond.fieldLink RX12 7 "FieldScribeModel" (TX12 0).2.1 (TX12 0).2.2.1 ∈ wsX12_cuts := by decide +kernel
/-- s is the stretch of r from b to e -/
def str (r : List Int32) (b e : Nat) (s : List Int32) : Prop := b ≤ e ∧ e ≤ r.length ∧ s = (r.drop b).take (e - b)
def mRec (I : Nat → Int32) (M : Nat → Nat → Int32) (r : List Int32) : Prop := I 2 = nI r.length ∧ r.length ≤ 60 ∧ ∀ j, j < r.length → M 1 j = r.getD j 0
def mCut (I : Nat → Int32) (M : Nat → Nat → Int32) (sep : Int32) (r : List Int32) : Prop := I 0 = sep ∧ I 3 = nI (nfd sep r) ∧ ∀ k, k < nfd sep r → ∃ b e, M 4 k = nI b ∧ M 5 k = nI e ∧ str r b e (fld sep r (k + 1))
def bOf (I : Nat → Int32) (M : Nat → Nat → Int32) (k : Nat) : Int32 := if k = 0 ∨ I 3 < nI k then 0 else M 4 (k - 1)
def eOf (I : Nat → Int32) (M : Nat → Nat → Int32) (k : Nat) : Int32 := if k = 0 then I 2 else if I 3 < nI k then 0 else M 5 (k - 1)
theorem cutG_out (sep : Int32) : ∀ (r : List Int32) (n : Nat) (P : Nat → List Int32), (r ≠ [] → 0 < n) → (∀ k, n ≤ k → P k = []) → ∀ k, (cutG sep r n P).1 ≤ k → (cutG sep r n P).2 k = [] := by
  intro r
  induction r with
  | nil => intro n P _ h k hk; exact h k hk
  | cons c t ih =>
    intro n P h0 h k hk
    have hn : 0 < n := h0 (by simp)
    unfold cutG at hk ⊢
    split
    · rename_i hc
      rw [if_pos hc] at hk
      exact ih (n + 1) P (fun _ => by omega) (fun k hk => h k (by omega)) k hk
    · rename_i hc
      rw [if_neg hc] at hk
      refine ih n _ (fun _ => hn) (fun k hk => ?_) k hk
      rw [va_up_other _ _ _ (by omega)]
      exact h k hk
theorem fld_out {sep : Int32} {r : List Int32} {k : Nat} (h : nfd sep r < k) : fld sep r k = [] := by
  unfold fld
  rw [if_neg (by omega)]
  refine cutG_out sep r _ _ (fun hr => by rw [if_neg hr]; omega) (fun _ _ => rfl) (k - 1) ?_
  show nfd sep r ≤ k - 1
  omega
theorem be {I : Nat → Int32} {M : Nat → Nat → Int32} {sep : Int32} {r : List Int32} (h1 : mRec I M r) (h2 : mCut I M sep r) {k : Nat} (hk : k ≤ 12) : ∃ b e, bOf I M k = nI b ∧ eOf I M k = nI e ∧ str r b e (fld sep r k) := by
  have hn := nfd_le sep r
  by_cases h0 : k = 0
  · exact ⟨0, r.length, by unfold bOf; rw [if_pos (Or.inl h0)]; rfl, by unfold eOf; rw [if_pos h0]; exact h1.1, by omega, by omega, by unfold fld; rw [if_pos h0]; simp⟩
  · by_cases hk2 : nfd sep r < k
    · have : I 3 < nI k := by rw [h2.2.1]; exact (nI_ltI (by omega) (by omega)).mpr hk2
      exact ⟨0, 0, by unfold bOf; rw [if_pos (Or.inr this)]; rfl, by unfold eOf; rw [if_neg h0, if_pos this]; rfl, by omega, by omega, by rw [fld_out hk2]; simp⟩
    · have : ¬ I 3 < nI k := by rw [h2.2.1]; exact fun z => hk2 ((nI_ltI (by omega) (by omega)).mp z)
      obtain ⟨b, e, e1, e2, e3⟩ := h2.2.2 (k - 1) (by omega)
      rw [Nat.sub_add_cancel (by omega)] at e3
      exact ⟨b, e, by unfold bOf; rw [if_neg (by rintro (z | z); exact h0 z; exact this z)]; exact e1, by unfold eOf; rw [if_neg h0, if_neg this]; exact e2, e3⟩
theorem take_one {r : List Int32} {b i : Nat} (hb : b ≤ i) (hi : i < r.length) : (r.drop b).take (i - b) ++ [r.getD i 0] = (r.drop b).take (i + 1 - b) := by
  rw [show i + 1 - b = (i - b) + 1 by omega, List.take_add_one, List.getElem?_drop, show b + (i - b) = i by omega, List.getD_eq_getElem?_getD, List.getElem?_eq_getElem hi]
  rfl
section MC
variable {l : Launch} {D : va_G} {tys : List (ClassId × FieldType)} {z0 : Nat} {A : Nat → Prop} {cI cZ : ClassId} {md : Nat} {ad : Nat → Nat} {I : Nat → Int32} {M : Nat → Nat → Int32} {sep : Int32} {r : List Int32}
set_option maxRecDepth 100000 in
set_option maxHeartbeats 4000000 in
theorem m_from0 (ht1 : tys[1]? = some (cI, .int)) {k : Nat} (hk : k ≤ 12) : ct D tys z0 A (picM D cI cZ md ad A) l yX12_from wsX12_from rm0 [.ref md, .int (nI k)] (I, M) (qI (picM D cI cZ md ad A) A (fun q x => x = (I, M) ∧ q = bOf I M k)) := by
  refine ct_of RX12 (by decide +kernel) rfl rfl (Nat.le_of_ble_eq_true rfl) ?_
  intro p e s m below meth c C hr hm
  refine v_lv (lv' := [(0, _), (1, _)]) rfl ?_
  refine v_cut0 (pcj := 12) (lvj := []) (stj := []) (k = 0 ∨ I 3 < nI k) (fun hw => ?_) (fun K => ?_)
  · skip
    refine v_iconst C dX12_from_12 (v := 0) (by decide) ?_
    refine v_goto C 24 dX12_from_13 (by decide) ?_
    exact v_ireturn C dX12_from_24 hr (rfl) (Nat.le_of_ble_eq_true rfl) (Nat.le_of_ble_eq_true rfl) (⟨rfl, by unfold bOf; rw [if_pos hw]⟩)
  · skip
    refine v_iload_n C dX12_from_0 (j := 1) rfl rfl ?_
    refine v_if_eq C 12 dX12_from_1 (by decide) (fun c1 => ?_) (fun c1 => ?_)
    · skip
      exact v_sub [] rfl (K (Or.inl (by have := congrArg Int32.toNatClampNeg c1; rw [nI_clamp (by omega)] at this; exact this)))
    · skip
      refine v_iload_n C dX12_from_4 (j := 1) rfl rfl ?_
      refine v_aload_n C dX12_from_5 (j := 0) rfl rfl ?_
      refine v_get C (T := TX12) (ci := 12) (j := 3) dX12_from_6 wiX12_from_X12 rfl (by decide) wfX12_from_88 (fun _ h => h) (M_int rfl (by decide)) ?_
      refine v_icmp_le C 16 dX12_from_9 (by decide) (fun c2 => ?_) (fun c2 => ?_)
      · skip
        refine v_aload_n C dX12_from_16 (j := 0) rfl rfl ?_
        refine v_get C (T := TX12) (ci := 12) (j := 4) dX12_from_17 wiX12_from_X12 rfl (by decide) wfX12_from_17 (fun _ h => h) (M_ref rfl (by decide)) ?_
        refine v_iload_n C dX12_from_20 (j := 1) rfl rfl ?_
        refine v_iconst C dX12_from_21 (v := 1) (by decide) ?_
        refine v_isub C dX12_from_22 ?_
        have hk0 : k ≠ 0 := fun z => c1 (by rw [z]; rfl)
        refine v_int (b := nI (k - 1)) (by rw [show k = k - 1 + 1 by omega]; exact nI_pred _) ?_
        refine v_iald C dX12_from_23 1 ht1 (M_arr (j := 4) rfl) (vp_in_nI (by show k - 1 < 12; omega) (by decide)) ?_
        exact v_ireturn C dX12_from_24 hr (rfl) (Nat.le_of_ble_eq_true rfl) (Nat.le_of_ble_eq_true rfl) (⟨rfl, by unfold bOf; rw [if_neg (by rintro (z | z); exact c1 (by rw [z]; rfl); exact Int32.not_lt.mpr c2 z), nI_clamp (by omega)]⟩)
      · skip
        exact v_sub [] rfl (K (Or.inr (Int32.not_le.mp c2)))
set_option maxRecDepth 100000 in
set_option maxHeartbeats 4000000 in
theorem m_to0 (ht1 : tys[1]? = some (cI, .int)) {k : Nat} (hk : k ≤ 12) : ct D tys z0 A (picM D cI cZ md ad A) l yX12_to wsX12_to rm0 [.ref md, .int (nI k)] (I, M) (qI (picM D cI cZ md ad A) A (fun q x => x = (I, M) ∧ q = eOf I M k)) := by
  refine ct_of RX12 (by decide +kernel) rfl rfl (Nat.le_of_ble_eq_true rfl) ?_
  intro p e s m below meth c C hr hm
  refine v_lv (lv' := [(0, _), (1, _)]) rfl ?_
  refine v_iload_n C dX12_to_0 (j := 1) rfl rfl ?_
  refine v_if_ne C 11 dX12_to_1 (by decide) (fun c1 => ?_) (fun c1 => ?_)
  · skip
    have hk0 : k ≠ 0 := fun z => c1 (by rw [z]; rfl)
    refine v_iload_n C dX12_to_11 (j := 1) rfl rfl ?_
    refine v_aload_n C dX12_to_12 (j := 0) rfl rfl ?_
    refine v_get C (T := TX12) (ci := 12) (j := 3) dX12_to_13 wiX12_to_X12 rfl (by decide) wfX12_to_88 (fun _ h => h) (M_int rfl (by decide)) ?_
    refine v_icmp_le C 23 dX12_to_16 (by decide) (fun c2 => ?_) (fun c2 => ?_)
    · skip
      refine v_aload_n C dX12_to_23 (j := 0) rfl rfl ?_
      refine v_get C (T := TX12) (ci := 12) (j := 5) dX12_to_24 wiX12_to_X12 rfl (by decide) wfX12_to_20 (fun _ h => h) (M_ref rfl (by decide)) ?_
      refine v_iload_n C dX12_to_27 (j := 1) rfl rfl ?_
      refine v_iconst C dX12_to_28 (v := 1) (by decide) ?_
      refine v_isub C dX12_to_29 ?_
      refine v_int (b := nI (k - 1)) (by rw [show k = k - 1 + 1 by omega]; exact nI_pred _) ?_
      refine v_iald C dX12_to_30 1 ht1 (M_arr (j := 5) rfl) (vp_in_nI (by show k - 1 < 12; omega) (by decide)) ?_
      exact v_ireturn C dX12_to_31 hr (rfl) (Nat.le_of_ble_eq_true rfl) (Nat.le_of_ble_eq_true rfl) (⟨rfl, by unfold eOf; rw [if_neg hk0, if_neg (Int32.not_lt.mpr c2), nI_clamp (by omega)]⟩)
    · skip
      refine v_iconst C dX12_to_19 (v := 0) (by decide) ?_
      refine v_goto C 31 dX12_to_20 (by decide) ?_
      exact v_ireturn C dX12_to_31 hr (rfl) (Nat.le_of_ble_eq_true rfl) (Nat.le_of_ble_eq_true rfl) (⟨rfl, by unfold eOf; rw [if_neg hk0, if_pos (Int32.not_le.mp c2)]⟩)
  · skip
    refine v_aload_n C dX12_to_4 (j := 0) rfl rfl ?_
    refine v_get C (T := TX12) (ci := 12) (j := 2) dX12_to_5 wiX12_to_X12 rfl (by decide) wfX12_to_91 (fun _ h => h) (M_int rfl (by decide)) ?_
    refine v_goto C 31 dX12_to_8 (by decide) ?_
    exact v_ireturn C dX12_to_31 hr (rfl) (Nat.le_of_ble_eq_true rfl) (Nat.le_of_ble_eq_true rfl) (⟨rfl, by unfold eOf; rw [if_pos (by have := congrArg Int32.toNatClampNeg c1; rw [nI_clamp (by omega)] at this; exact this)]⟩)
set_option maxRecDepth 100000 in
set_option maxHeartbeats 8000000 in
theorem m_cuts (ht1 : tys[1]? = some (cI, .int)) (h1 : mRec I M r) (h0 : I 0 = sep) : ct D tys z0 A (picM D cI cZ md ad A) l yX12_cuts wsX12_cuts rm0 [.ref md] (I, M) (qV (picM D cI cZ md ad A) A (fun x => ∃ I' M', x = (I', M') ∧ mCut I' M' sep r ∧ (∀ j, j ≠ 3 → I' j = I j) ∧ ∀ j, j ≠ 4 → j ≠ 5 → M' j = M j)) := by
  obtain ⟨h2, h3, h4⟩ := h1
  refine ct_of RX12 (by decide +kernel) rfl rfl (Nat.le_of_ble_eq_true rfl) ?_
  intro p e s m below meth c C hr hm
  refine v_lv (lv' := [(0, _)]) rfl ?_
  refine v_aload_n C dX12_cuts_0 (j := 0) rfl rfl ?_
  refine v_aload_n C dX12_cuts_1 (j := 0) rfl rfl ?_
  refine v_get C (T := TX12) (ci := 12) (j := 2) dX12_cuts_2 wiX12_cuts_X12 rfl (by decide) wfX12_cuts_91 (fun _ h => h) (M_int rfl (by decide)) ?_
  refine v_cut (pcj := 13) (lvj := [(0, .ref md)]) (stj := [.ref md]) (fun w => w = nI (if r = [] then 0 else 1)) (fun w hw => ?_) (fun K => ?_)
  · skip
    subst hw
    refine v_put C (T := TX12) (ci := 12) (j := 3) (ty := .int) dX12_cuts_13 wiX12_cuts_X12 tyX12 tyX12_ok nmX12 rfl (by decide) wfX12_cuts_88 (fun _ h => h) rfl rfl (rfl) (rfl) (M_put rfl (by decide) _) ?_
    refine v_aload_n C dX12_cuts_16 (j := 0) rfl rfl ?_
    refine v_get C (T := TX12) (ci := 12) (j := 4) dX12_cuts_17 wiX12_cuts_X12 rfl (by decide) wfX12_cuts_17 (fun _ h => h) (M_ref rfl (by decide)) ?_
    refine v_iconst C dX12_cuts_20 (v := 0) (by decide) ?_
    refine v_iconst C dX12_cuts_21 (v := 0) (by decide) ?_
    refine v_iast C dX12_cuts_22 1 ht1 (by unfold vp_in; decide) (M_set (j := 4) rfl _) ?_
    refine v_iconst C dX12_cuts_23 (v := 0) (by decide) ?_
    refine v_istore_n C dX12_cuts_24 rfl (by decide) (lv' := [(1, _), (0, _)]) rfl ?_
    have e00 : (if r = [] then 0 else 1) - 1 = 0 := by split <;> rfl
    obtain ⟨I1, M1, n, i, P, hi, e1, e2, hI3, hI, hM, hn, hn0, hcut, hcl, hop, hout⟩ : ∃ (I1 : Nat → Int32) (M1 : Nat → Nat → Int32) (n i : Nat) (P : Nat → List Int32), i = 0 ∧ I1 = va_up I 3 (nI (if r = [] then 0 else 1)) ∧ M1 = va_up M 4 (upd (M 4) (0 : Int32).toNatClampNeg 0) ∧ I1 3 = nI n ∧ (∀ j, j ≠ 3 → I1 j = I j) ∧ (∀ j, j ≠ 4 → j ≠ 5 → M1 j = M j) ∧ n ≤ 12 ∧ (r ≠ [] → 0 < n) ∧ cutR sep r = cutG sep (r.drop i) n P ∧ (∀ k, k + 1 < n → ∃ b e, M1 4 k = nI b ∧ M1 5 k = nI e ∧ str r b e (P k)) ∧ (0 < n → ∃ b, b ≤ i ∧ M1 4 (n - 1) = nI b ∧ P (n - 1) = (r.drop b).take (i - b)) ∧ ∀ k, n ≤ k → P k = [] :=
      ⟨_, _, if r = [] then 0 else 1, 0, fun _ => [], rfl, rfl, rfl, va_up_same _ _ _, fun j hj => va_up_other _ _ _ hj, fun j hj _ => va_up_other _ _ _ hj, by split <;> omega, fun h => by rw [if_neg h]; omega, rfl, fun k hk => by split at hk <;> omega, fun h => ⟨0, Nat.le_refl _, by rw [e00, va_up_same]; rfl, by simp⟩, fun _ _ => rfl⟩
    refine v_x (x' := (I1, M1)) (fun H hP => by rw [e1, e2]; exact hP) ?_
    refine v_lv (lv' := [(1, .int (nI i)), (0, _)]) (by rw [hi]; rfl) ?_
    have hil : i ≤ r.length := by omega
    clear hi e1 e2
    induction hd : (r.length - i) using Nat.strongRecOn generalizing I1 M1 n i P with | _ d ih =>
      have q2 : I1 2 = nI r.length := by rw [hI 2 (by decide)]; exact h2
      have q0 : I1 0 = sep := by rw [hI 0 (by decide)]; exact h0
      refine v_iload_n C dX12_cuts_25 (j := 0) rfl rfl ?_
      refine v_aload_n C dX12_cuts_26 (j := 1) rfl rfl ?_
      refine v_get C (T := TX12) (ci := 12) (j := 2) dX12_cuts_27 wiX12_cuts_X12 rfl (by decide) wfX12_cuts_91 (fun _ h => h) (M_int rfl (by decide)) ?_
      rw [q2]
      refine v_icmp_ge C 95 dX12_cuts_30 (by decide) (fun c1 => ?_) (fun c1 => ?_)
      · skip
        have c2 : i = r.length := by have := le_of c1 (by omega) (by omega); omega
        subst c2
        rw [List.drop_length] at hcut
        have hnf : nfd sep r = n := by unfold nfd; rw [hcut]; rfl
        have hP : (cutR sep r).2 = P := by rw [hcut]; rfl
        refine v_aload_n C dX12_cuts_95 (j := 1) rfl rfl ?_
        refine v_get C (T := TX12) (ci := 12) (j := 3) dX12_cuts_96 wiX12_cuts_X12 rfl (by decide) wfX12_cuts_88 (fun _ h => h) (M_int rfl (by decide)) ?_
        rw [hI3]
        refine v_if_le C 117 dX12_cuts_99 (by decide) (fun c3 => ?_) (fun c3 => ?_)
        · skip
          have hn9 : n = 0 := by have := (nI_leI (a := n) (b := 0) (by omega) (by decide)).mp c3; omega
          exact v_return C dX12_cuts_117 hr (Nat.le_of_ble_eq_true rfl) (Nat.le_of_ble_eq_true rfl) (⟨I1, M1, rfl, ⟨q0, by rw [hnf]; exact hI3, fun k hk => by omega⟩, hI, hM⟩)
        · skip
          have hn9 : 0 < n := by rcases Nat.eq_zero_or_pos n with z | z; exact absurd (by rw [z]; exact Int32.le_refl _) c3; exact z
          refine v_aload_n C dX12_cuts_102 (j := 1) rfl rfl ?_
          refine v_get C (T := TX12) (ci := 12) (j := 5) dX12_cuts_103 wiX12_cuts_X12 rfl (by decide) wfX12_cuts_20 (fun _ h => h) (M_ref rfl (by decide)) ?_
          refine v_aload_n C dX12_cuts_106 (j := 1) rfl rfl ?_
          refine v_get C (T := TX12) (ci := 12) (j := 3) dX12_cuts_107 wiX12_cuts_X12 rfl (by decide) wfX12_cuts_88 (fun _ h => h) (M_int rfl (by decide)) ?_
          refine v_iconst C dX12_cuts_110 (v := 1) (by decide) ?_
          rw [hI3]
          refine v_isub C dX12_cuts_111 ?_
          refine v_int (b := nI (n - 1)) (by rw [show n = n - 1 + 1 by omega]; exact nI_pred _) ?_
          refine v_aload_n C dX12_cuts_112 (j := 1) rfl rfl ?_
          refine v_get C (T := TX12) (ci := 12) (j := 2) dX12_cuts_113 wiX12_cuts_X12 rfl (by decide) wfX12_cuts_91 (fun _ h => h) (M_int rfl (by decide)) ?_
          rw [q2]
          refine v_iast C dX12_cuts_116 1 ht1 (vp_in_nI (by show n - 1 < 12; omega) (by decide)) (M_set (j := 5) rfl _) ?_
          rw [nI_clamp (by omega)]
          obtain ⟨b, g1, g2, g3⟩ := hop hn9
          exact v_return C dX12_cuts_117 hr (Nat.le_of_ble_eq_true rfl) (Nat.le_of_ble_eq_true rfl) (⟨I1, _, rfl, ⟨q0, by rw [hnf]; exact hI3, fun k hk => by rw [hnf] at hk; by_cases hkn : k = n - 1; exact ⟨b, r.length, by rw [va_up_other _ _ _ (by decide), hkn]; exact g2, by rw [va_up_same, hkn]; unfold upd; rw [if_pos rfl], g1, Nat.le_refl _, by unfold fld; rw [if_neg (by omega), hP, Nat.add_sub_cancel, hkn]; exact g3⟩; obtain ⟨b2, e2, k1, k2, k3⟩ := hcl k (by omega); exact ⟨b2, e2, by rw [va_up_other _ _ _ (by decide)]; exact k1, by rw [va_up_same]; unfold upd; rw [if_neg hkn]; exact k2, by unfold fld; rw [if_neg (by omega), hP, Nat.add_sub_cancel]; exact k3⟩⟩, hI, fun j j1 j2 => by rw [va_up_other _ _ _ j2]; exact hM j j1 j2⟩)
      · skip
        have c2 : i < r.length := lt_ofn c1 (by omega) (by omega)
        have hr : r ≠ [] := fun z => by rw [z] at c2; cases c2
        have hn9 := hn0 hr
        have hdr : r.drop i = r.getD i 0 :: r.drop (i + 1) := dropc 0 c2
        rw [hdr] at hcut
        obtain ⟨b, g1, g2, g3⟩ := hop hn9
        refine v_aload_n C dX12_cuts_33 (j := 1) rfl rfl ?_
        refine v_get C (T := TX12) (ci := 12) (j := 1) dX12_cuts_34 wiX12_cuts_X12 rfl (by decide) wfX12_cuts_13 (fun _ h => h) (M_ref rfl (by decide)) ?_
        refine v_iload_n C dX12_cuts_37 (j := 0) rfl rfl ?_
        refine v_iald C dX12_cuts_38 1 ht1 (M_arr (j := 1) rfl) (vp_in_nI (by show i < 60; omega) (by decide)) ?_
        refine v_int (b := r.getD i 0) (by rw [nI_clamp (by omega), hM 1 (by decide) (by decide)]; exact h4 i c2) ?_
        refine v_aload_n C dX12_cuts_39 (j := 1) rfl rfl ?_
        refine v_get C (T := TX12) (ci := 12) (j := 0) dX12_cuts_40 wiX12_cuts_X12 rfl (by decide) wfX12_cuts_7 (fun _ h => h) (M_int rfl (by decide)) ?_
        rw [q0]
        refine v_cut0 (pcj := 89) (lvj := [(1, .int (nI i)), (0, .ref md)]) (stj := []) (¬ (r.getD i 0 = sep ∧ n < 12)) (fun hw => ?_) (fun K => ?_)
        · skip
          refine v_iinc C dX12_cuts_89 (j := 0) (v := _ + 1) rfl rfl (by decide) (lv' := [(1, _), (0, _)]) rfl ?_
          refine v_goto C 25 dX12_cuts_92 (by decide) ?_
          rw [nI_1]
          refine ih (r.length - (i + 1)) (by omega) I1 M1 n (i + 1) (va_up P (n - 1) (P (n - 1) ++ [r.getD i 0])) hI3 hI hM hn hn0 ?_ (fun k hk => ?_) (fun _ => ⟨b, by omega, g2, ?_⟩) (fun k hk => ?_) (by omega) rfl
          · rw [hcut]; conv => lhs; unfold cutG; rw [if_neg hw]
          · rw [va_up_other _ _ _ (by omega)]; exact hcl k hk
          · rw [va_up_same, g3, take_one g1 c2]
          · rw [va_up_other _ _ _ (by omega)]; exact hout k hk
        · skip
          refine v_icmp_ne C 89 dX12_cuts_43 (by decide) (fun c3 => ?_) (fun c3 => ?_)
          · skip
            exact K (fun h => c3 h.1)
          · skip
            refine v_aload_n C dX12_cuts_46 (j := 1) rfl rfl ?_
            refine v_get C (T := TX12) (ci := 12) (j := 3) dX12_cuts_47 wiX12_cuts_X12 rfl (by decide) wfX12_cuts_88 (fun _ h => h) (M_int rfl (by decide)) ?_
            refine v_bipush C dX12_cuts_50 (v := 12) (by decide) ?_
            rw [hI3]
            refine v_icmp_ge C 89 dX12_cuts_52 (by decide) (fun c4 => ?_) (fun c4 => ?_)
            · skip
              exact K (fun h => by have := le_of (a := 12) c4 (by decide) (by omega); omega)
            · skip
              have c5 : n < 12 := lt_ofn (a := 12) c4 (by decide) (by omega)
              refine v_aload_n C dX12_cuts_55 (j := 1) rfl rfl ?_
              refine v_get C (T := TX12) (ci := 12) (j := 5) dX12_cuts_56 wiX12_cuts_X12 rfl (by decide) wfX12_cuts_20 (fun _ h => h) (M_ref rfl (by decide)) ?_
              refine v_aload_n C dX12_cuts_59 (j := 1) rfl rfl ?_
              refine v_get C (T := TX12) (ci := 12) (j := 3) dX12_cuts_60 wiX12_cuts_X12 rfl (by decide) wfX12_cuts_88 (fun _ h => h) (M_int rfl (by decide)) ?_
              rw [hI3]
              refine v_iconst C dX12_cuts_63 (v := 1) (by decide) ?_
              refine v_isub C dX12_cuts_64 ?_
              refine v_int (b := nI (n - 1)) (by rw [show n = n - 1 + 1 by omega]; exact nI_pred _) ?_
              refine v_iload_n C dX12_cuts_65 (j := 0) rfl rfl ?_
              refine v_iast C dX12_cuts_66 1 ht1 (vp_in_nI (by show n - 1 < 12; omega) (by decide)) (M_set (j := 5) rfl _) ?_
              rw [nI_clamp (by omega)]
              refine v_aload_n C dX12_cuts_67 (j := 1) rfl rfl ?_
              refine v_get C (T := TX12) (ci := 12) (j := 4) dX12_cuts_68 wiX12_cuts_X12 rfl (by decide) wfX12_cuts_17 (fun _ h => h) (M_ref rfl (by decide)) ?_
              refine v_aload_n C dX12_cuts_71 (j := 1) rfl rfl ?_
              refine v_get C (T := TX12) (ci := 12) (j := 3) dX12_cuts_72 wiX12_cuts_X12 rfl (by decide) wfX12_cuts_88 (fun _ h => h) (M_int rfl (by decide)) ?_
              rw [hI3]
              refine v_iload_n C dX12_cuts_75 (j := 0) rfl rfl ?_
              refine v_iconst C dX12_cuts_76 (v := 1) (by decide) ?_
              refine v_iadd C dX12_cuts_77 ?_
              rw [nI_1]
              refine v_iast C dX12_cuts_78 1 ht1 (vp_in_nI (by show n < 12; omega) (by decide)) (M_set (j := 4) rfl _) ?_
              rw [nI_clamp (by omega)]
              refine v_aload_n C dX12_cuts_79 (j := 1) rfl rfl ?_
              refine v_dup C dX12_cuts_80 rfl ?_
              refine v_get C (T := TX12) (ci := 12) (j := 3) dX12_cuts_81 wiX12_cuts_X12 rfl (by decide) wfX12_cuts_88 (fun _ h => h) (M_int rfl (by decide)) ?_
              rw [hI3]
              refine v_iconst C dX12_cuts_84 (v := 1) (by decide) ?_
              refine v_iadd C dX12_cuts_85 ?_
              rw [nI_1]
              refine v_put C (T := TX12) (ci := 12) (j := 3) (ty := .int) dX12_cuts_86 wiX12_cuts_X12 tyX12 tyX12_ok nmX12 rfl (by decide) wfX12_cuts_88 (fun _ h => h) rfl rfl (rfl) (rfl) (M_put rfl (by decide) _) ?_
              refine v_iinc C dX12_cuts_89 (j := 0) (v := _ + 1) rfl rfl (by decide) (lv' := [(1, _), (0, _)]) rfl ?_
              refine v_goto C 25 dX12_cuts_92 (by decide) ?_
              rw [nI_1]
              have w4 : va_up M1 5 (upd (M1 5) (n - 1) (nI i)) 4 = M1 4 := va_up_other _ _ _ (by decide)
              refine ih (r.length - (i + 1)) (by omega) _ _ (n + 1) (i + 1) P (va_up_same _ _ _) (fun j hj => by rw [va_up_other _ _ _ hj]; exact hI j hj) (fun j j1 j2 => by rw [va_up_other _ _ _ j1, va_up_other _ _ _ j2]; exact hM j j1 j2) (by omega) (fun _ => by omega) ?_ (fun k hk => ?_) (fun _ => ⟨i + 1, Nat.le_refl _, ?_, ?_⟩) (fun k hk => hout k (by omega)) (by omega) rfl
              · rw [hcut]; conv => lhs; unfold cutG; rw [if_pos ⟨c3, c5⟩]
              · have w5 : va_up (va_up M1 5 (upd (M1 5) (n - 1) (nI i))) 4 (upd (va_up M1 5 (upd (M1 5) (n - 1) (nI i)) 4) n (nI (i + 1))) 5 = upd (M1 5) (n - 1) (nI i) := by rw [va_up_other _ _ _ (by decide), va_up_same]
                by_cases hkn : k = n - 1
                · refine ⟨b, i, ?_, ?_, g1, by omega, by rw [hkn]; exact g3⟩
                  · rw [va_up_same, w4]; unfold upd; rw [if_neg (by omega), hkn]; exact g2
                  · rw [w5]; unfold upd; rw [if_pos hkn]
                · obtain ⟨b2, e2, k1, k2, k3⟩ := hcl k (by omega)
                  refine ⟨b2, e2, ?_, ?_, k3⟩
                  · rw [va_up_same, w4]; unfold upd; rw [if_neg (by omega)]; exact k1
                  · rw [w5]; unfold upd; rw [if_neg hkn]; exact k2
              · rw [va_up_same, Nat.add_sub_cancel]; unfold upd; rw [if_pos rfl]
              · rw [Nat.add_sub_cancel, hout n (Nat.le_refl _)]; simp
  · skip
    rw [h2]
    refine v_if_ne C 12 dX12_cuts_5 (by decide) (fun c1 => ?_) (fun c1 => ?_)
    · skip
      refine v_iconst C dX12_cuts_12 (v := 1) (by decide) ?_
      exact K _ (by rw [if_neg (fun z => c1 (by rw [z]; rfl))]; rfl)
    · skip
      refine v_iconst C dX12_cuts_8 (v := 0) (by decide) ?_
      refine v_goto C 13 dX12_cuts_9 (by decide) ?_
      exact K _ (by rw [if_pos (List.eq_nil_of_length_eq_zero (by have := congrArg Int32.toNatClampNeg c1; rw [nI_clamp (by omega)] at this; exact this))]; rfl)
end MC
