/-! ===== the law: how many fields, where they begin and end ===== -/

theorem cutG_out (sep : Int32) : ∀ (r : List Int32) (n : Nat) (P : Nat → List Int32), (r ≠ [] → 0 < n) → (∀ k, n ≤ k → P k = []) → ∀ k, (cutG sep r n P).1 ≤ k → (cutG sep r n P).2 k = [] := by
  intro r
  induction r with
  | nil => intro n P _ h k hk; exact h k hk
  | cons c t ih =>
    intro n P h0 h k hk
    have hn : 0 < n := h0 (by simp)
    unfold cutG at hk ⊢
    split
    · rename_i hc
      rw [if_pos hc] at hk
      exact ih (n + 1) P (fun _ => by omega) (fun k hk => h k (by omega)) k hk
    · rename_i hc
      rw [if_neg hc] at hk
      refine ih n _ (fun _ => hn) (fun k hk => ?_) k hk
      rw [va_up_other _ _ _ (by omega)]
      exact h k hk
theorem fld_out {sep : Int32} {r : List Int32} {k : Nat} (h : nfd sep r < k) : fld sep r k = [] := by
  unfold fld
  rw [if_neg (by omega)]
  refine cutG_out sep r _ _ (fun hr => by rw [if_neg hr]; omega) (fun _ _ => rfl) (k - 1) ?_
  show nfd sep r ≤ k - 1
  omega
theorem cutG_keep (sep : Int32) : ∀ (r : List Int32) (n : Nat) (P : Nat → List Int32) (i : Nat), i + 1 < n → (cutG sep r n P).2 i = P i := by
  intro r
  induction r with
  | nil => intro n P i _; rfl
  | cons c t ih =>
    intro n P i hi
    unfold cutG
    split
    · exact ih (n + 1) P i (by omega)
    · rw [ih n _ i hi, va_up_other _ _ _ (by omega)]
/-- the k-th field's stretch: from the sign j on, in the field n that began at fr -/
def edg (sep : Int32) : List Int32 → Nat → Nat → Nat → Nat → Nat × Nat
  | [], _, j, fr, _ => (fr, j)
  | c :: t, n, j, fr, k => if c = sep ∧ n < 12 then (if n = k then (fr, j) else edg sep t (n + 1) (j + 1) (j + 1) k) else edg sep t n (j + 1) fr k
def eB (sep : Int32) (r : List Int32) (k : Nat) : Nat := if k = 0 then 0 else if nfd sep r < k then 0 else (edg sep r 1 0 0 k).1
def eE (sep : Int32) (r : List Int32) (k : Nat) : Nat := if k = 0 then r.length else if nfd sep r < k then 0 else (edg sep r 1 0 0 k).2
theorem edg_str (sep : Int32) (r : List Int32) : ∀ (t : List Int32) (j n fr k : Nat) (P : Nat → List Int32), t = r.drop j → j ≤ r.length → fr ≤ j → 1 ≤ n → n ≤ k → k ≤ (cutG sep t n P).1 → P (n - 1) = (r.drop fr).take (j - fr) → (∀ i, n ≤ i → P i = []) → str r (edg sep t n j fr k).1 (edg sep t n j fr k).2 ((cutG sep t n P).2 (k - 1)) := by
  intro t
  induction t with
  | nil =>
    intro j n fr k P ht hj hf hn hnk hk hP _
    have hjl : j = r.length := by have := congrArg List.length ht; rw [List.length_drop] at this; simp at this; omega
    have hkn : k = n := by have : k ≤ n := hk; omega
    exact ⟨hf, hj, by rw [hkn]; exact hP⟩
  | cons c t ih =>
    intro j n fr k P ht hj hf hn hnk hk hP hout
    have hjl : j < r.length := by have := congrArg List.length ht; rw [List.length_drop] at this; simp at this; omega
    have hdr := dropc (0 : Int32) hjl
    rw [← ht] at hdr
    obtain ⟨hc, ht2⟩ := List.cons.inj hdr
    unfold cutG at hk ⊢
    unfold edg
    by_cases h1 : c = sep ∧ n < 12
    · rw [if_pos h1] at hk ⊢
      rw [if_pos h1]
      by_cases h2 : n = k
      · rw [if_pos h2]
        refine ⟨hf, hj, ?_⟩
        rw [cutG_keep sep t (n + 1) P (k - 1) (by omega), ← h2]
        exact hP
      · rw [if_neg h2]
        refine ih (j + 1) (n + 1) (j + 1) k P ht2 (by omega) (Nat.le_refl _) (by omega) (by omega) hk ?_ (fun i hi => hout i (by omega))
        rw [Nat.add_sub_cancel, hout n (Nat.le_refl _)]
        simp
    · rw [if_neg h1] at hk ⊢
      rw [if_neg h1]
      refine ih (j + 1) n fr k _ ht2 (by omega) (by omega) hn hnk hk ?_ (fun i hi => ?_)
      · rw [va_up_same, hP, hc, take_one hf hjl]
      · rw [va_up_other _ _ _ (by omega)]
        exact hout i hi
theorem eS (sep : Int32) (r : List Int32) (k : Nat) : str r (eB sep r k) (eE sep r k) (fld sep r k) := by
  unfold eB eE
  by_cases h0 : k = 0
  · rw [if_pos h0, if_pos h0, show fld sep r k = r from by unfold fld; rw [if_pos h0]]
    exact str_all r
  · rw [if_neg h0, if_neg h0]
    by_cases h1 : nfd sep r < k
    · rw [if_pos h1, if_pos h1, fld_out h1]
      exact ⟨Nat.le_refl _, Nat.zero_le _, by simp⟩
    · rw [if_neg h1, if_neg h1]
      have hr : r ≠ [] := fun z => h1 (by rw [z]; show 0 < k; omega)
      have e1 : cutR sep r = cutG sep r 1 (fun _ => []) := by unfold cutR; rw [if_neg hr]
      have e2 : fld sep r k = (cutG sep r 1 (fun _ => [])).2 (k - 1) := by unfold fld; rw [if_neg h0, e1]
      rw [e2]
      refine edg_str sep r r 0 1 0 k (fun _ => []) (by simp) (Nat.zero_le _) (Nat.le_refl _) (Nat.le_refl _) (by omega) ?_ (by simp) (fun _ _ => rfl)
      rw [← e1]
      exact Nat.le_of_not_lt h1
section NE
variable {l : Launch} {D : va_G} {tys : List (ClassId × FieldType)} {z0 : Nat} {A : Nat → Prop} {σ0 : Type} {pic0 : σ0 → Heap → Prop} {cI cJ : ClassId} {ad al : Nat → Nat} {y0 : σ0} {X : Nat → Nat → Int32} {Y : Nat → Nat → Int64} {sep : Int32} {r : List Int32}
set_option maxRecDepth 100000 in
set_option maxHeartbeats 8000000 in
theorem n_fields (ht1 : tys[1]? = some (cI, .int)) (hR : nT 0 X r) (hg : X 5 0 = sep) : ct D tys z0 A (picN pic0 cI cJ ad al A) l yL_fields wsL_fields rm0 [.ref (ad 0), .ref (ad 5)] (y0, X, Y) (qI (picN pic0 cI cJ ad al A) A (fun q x => x = (y0, X, Y) ∧ q = nI (nfd sep r))) := by
  obtain ⟨h2, h3, h4⟩ := hR
  refine ct_of RL (by decide +kernel) rfl rfl (Nat.le_of_ble_eq_true rfl) ?_
  intro p e s m below meth c C hr hm
  refine v_lv (lv' := [(0, _), (1, _)]) rfl ?_
  refine v_cut (pcj := 12) (lvj := [(0, .ref (ad 0)), (1, .ref (ad 5))]) (stj := []) (fun w => w = nI (if r = [] then 0 else 1)) (fun w hw => ?_) (fun K => ?_)
  · skip
    subst hw
    refine v_istore_n C dL_fields_12 rfl (by decide) (lv' := [(2, _), (0, _), (1, _)]) rfl ?_
    refine v_iconst C dL_fields_13 (v := 0) (by decide) ?_
    refine v_istore_n C dL_fields_14 rfl (by decide) (lv' := [(3, _), (2, _), (0, _), (1, _)]) rfl ?_
    obtain ⟨n, j, P, hj, e1, hn, hcut⟩ : ∃ (n j : Nat) (P : Nat → List Int32), j = 0 ∧ (if r = [] then 0 else 1) = n ∧ n ≤ 12 ∧ cutR sep r = cutG sep (r.drop j) n P := ⟨_, 0, fun _ => [], rfl, rfl, by split <;> omega, rfl⟩
    refine v_lv (lv' := [(3, .int (nI j)), (2, .int (nI n)), (0, _), (1, _)]) (by rw [hj, e1]; rfl) ?_
    have hjl : j ≤ r.length := by omega
    clear hj e1
    induction hd : (r.length - j) using Nat.strongRecOn generalizing n j P with | _ d ih =>
      refine v_iload_n C dL_fields_15 (j := 0) rfl rfl ?_
      refine v_aload_n C dL_fields_16 (j := 2) rfl rfl ?_
      refine v_bipush C dL_fields_17 (v := 60) (by decide) ?_
      refine v_iald C dL_fields_19 1 ht1 (N_t (j := 0) (by decide)) (by unfold vp_in; decide) ?_
      refine v_int (b := nI r.length) h2 ?_
      refine v_icmp_ge C 52 dL_fields_20 (by decide) (fun c1 => ?_) (fun c1 => ?_)
      · skip
        have c2 : j = r.length := by have := le_of c1 (by omega) (by omega); omega
        rw [c2, List.drop_length] at hcut
        refine v_iload_n C dL_fields_52 (j := 1) rfl rfl ?_
        exact v_ireturn C dL_fields_53 hr (rfl) (Nat.le_of_ble_eq_true rfl) (Nat.le_of_ble_eq_true rfl) (⟨rfl, by unfold nfd; rw [hcut]; rfl⟩)
      · skip
        have c2 : j < r.length := lt_ofn c1 (by omega) (by omega)
        have hdr : r.drop j = r.getD j 0 :: r.drop (j + 1) := dropc 0 c2
        rw [hdr] at hcut
        refine v_cut (pcj := 44) (lvj := [(3, .int (nI j)), (2, .int (nI n)), (0, .ref (ad 0)), (1, .ref (ad 5))]) (stj := [.int (nI n)]) (fun w => w = nI (if r.getD j 0 = sep ∧ n < 12 then 1 else 0)) (fun w hw => ?_) (fun K => ?_)
        · skip
          subst hw
          refine v_iadd C dL_fields_44 ?_
          refine v_istore_n C dL_fields_45 rfl (by decide) (lv' := [(2, _), (3, _), (0, _), (1, _)]) rfl ?_
          refine v_iinc C dL_fields_46 (j := 1) (v := _ + 1) rfl rfl (by decide) (lv' := [(3, _), (2, _), (0, _), (1, _)]) rfl ?_
          refine v_goto C 15 dL_fields_49 (by decide) ?_
          rw [nI_1, nI_add]
          by_cases hc : r.getD j 0 = sep ∧ n < 12
          · rw [if_pos hc]
            exact ih (r.length - (j + 1)) (by omega) (n + 1) (j + 1) P (by omega) (by rw [hcut]; conv => lhs; unfold cutG; rw [if_pos hc]) (by omega) rfl
          · rw [if_neg hc, Nat.add_zero]
            exact ih (r.length - (j + 1)) (by omega) n (j + 1) (va_up P (n - 1) (P (n - 1) ++ [r.getD j 0])) hn (by rw [hcut]; conv => lhs; unfold cutG; rw [if_neg hc]) (by omega) rfl
        · skip
          refine v_iload_n C dL_fields_23 (j := 1) rfl rfl ?_
          refine v_aload_n C dL_fields_24 (j := 2) rfl rfl ?_
          refine v_iload_n C dL_fields_25 (j := 0) rfl rfl ?_
          refine v_iald C dL_fields_26 1 ht1 (N_t (j := 0) (by decide)) (vp_in_nI (by omega) (by decide)) ?_
          refine v_int (b := r.getD j 0) (by rw [nI_clamp (by omega)]; exact h4 j c2) ?_
          refine v_aload_n C dL_fields_27 (j := 3) rfl rfl ?_
          refine v_iconst C dL_fields_28 (v := 0) (by decide) ?_
          refine v_iald C dL_fields_29 1 ht1 N_g (by unfold vp_in; decide) ?_
          refine v_int (b := sep) hg ?_
          refine v_icmp_ne C 43 dL_fields_30 (by decide) (fun c3 => ?_) (fun c3 => ?_)
          · skip
            refine v_iconst C dL_fields_43 (v := 0) (by decide) ?_
            exact K _ (by rw [if_neg (fun z => c3 z.1)]; rfl)
          · skip
            refine v_iload_n C dL_fields_33 (j := 1) rfl rfl ?_
            refine v_bipush C dL_fields_34 (v := 12) (by decide) ?_
            refine v_icmp_ge C 43 dL_fields_36 (by decide) (fun c4 => ?_) (fun c4 => ?_)
            · skip
              refine v_iconst C dL_fields_43 (v := 0) (by decide) ?_
              exact K _ (by rw [if_neg (fun z => by have := le_of (a := 12) c4 (by decide) (by omega); omega)]; rfl)
            · skip
              refine v_iconst C dL_fields_39 (v := 1) (by decide) ?_
              refine v_goto C 44 dL_fields_40 (by decide) ?_
              exact K _ (by rw [if_pos ⟨c3, lt_ofn (a := 12) c4 (by decide) (by omega)⟩]; rfl)
  · skip
    refine v_aload_n C dL_fields_0 (j := 0) rfl rfl ?_
    refine v_bipush C dL_fields_1 (v := 60) (by decide) ?_
    refine v_iald C dL_fields_3 1 ht1 (N_t (j := 0) (by decide)) (by unfold vp_in; decide) ?_
    refine v_int (b := nI r.length) h2 ?_
    refine v_if_ne C 11 dL_fields_4 (by decide) (fun c1 => ?_) (fun c1 => ?_)
    · skip
      refine v_iconst C dL_fields_11 (v := 1) (by decide) ?_
      exact K _ (by rw [if_neg (fun z => c1 (by rw [z]; rfl))]; rfl)
    · skip
      refine v_iconst C dL_fields_7 (v := 0) (by decide) ?_
      refine v_goto C 12 dL_fields_8 (by decide) ?_
      exact K _ (by rw [if_pos (List.eq_nil_of_length_eq_zero (by have := congrArg Int32.toNatClampNeg c1; rw [nI_clamp (by omega)] at this; exact this))]; rfl)
set_option maxRecDepth 100000 in
set_option maxHeartbeats 8000000 in
theorem n_edge (ht1 : tys[1]? = some (cI, .int)) (hR : nT 0 X r) (hg : X 5 0 = sep) {k : Nat} (hk : k ≤ 12) (be : Bool) : ct D tys z0 A (picN pic0 cI cJ ad al A) l yL_edge wsL_edge (rmL 1 23) [.ref (ad 0), .ref (ad 5), .int (nI k), .int (bI be)] (y0, X, Y) (qI (picN pic0 cI cJ ad al A) A (fun q x => x = (y0, X, Y) ∧ q = nI (if be = true then eE sep r k else eB sep r k))) := by
  have hR0 := hR
  have hnf := nfd_le sep r
  obtain ⟨h2, h3, h4⟩ := hR
  refine ct_of RL (by decide +kernel) rfl rfl (Nat.le_of_ble_eq_true rfl) ?_
  intro p e s m below meth c C hr hm
  refine v_lv (lv' := [(0, _), (1, _), (2, _), (3, _)]) rfl ?_
  refine v_iload_n C dL_edge_0 (j := 2) rfl rfl ?_
  refine v_if_ne C 17 dL_edge_1 (by decide) (fun c1 => ?_) (fun c1 => ?_)
  · skip
    have k0 : k ≠ 0 := fun z => c1 (by rw [z]; rfl)
    refine v_iload_n C dL_edge_17 (j := 2) rfl rfl ?_
    refine v_aload_n C dL_edge_18 (j := 0) rfl rfl ?_
    refine v_aload_n C dL_edge_19 (j := 1) rfl rfl ?_
    refine v_ci (v_runS C (n_fields ht1 hR0 hg) (va_cwS 2 C.1.2.2.2.2 gL_edge_L_fields rfl rfl rfl (by decide +kernel) ⟨Nat.le_of_ble_eq_true rfl, Nat.le_of_ble_eq_true rfl⟩) rfl dL_edge_20 (rest := [_]) (Nat.le_of_ble_eq_true rfl) rfl ⟨(by first | exact Nat.le_of_ble_eq_true rfl | (dsimp only; omega)), (by first | exact Nat.le_of_ble_eq_true rfl | (dsimp only; omega))⟩) (fun q x' hx' => ?_)
    obtain ⟨rfl, rfl⟩ := hx'
    refine v_icmp_le C 28 dL_edge_23 (by decide) (fun c2 => ?_) (fun c2 => ?_)
    · skip
      have c3 := le_of c2 (by omega) (by omega)
      have e9 : (if be = true then eE sep r k else eB sep r k) = (if be = true then (edg sep r 1 0 0 k).2 else (edg sep r 1 0 0 k).1) := by
          have w1 : eE sep r k = (edg sep r 1 0 0 k).2 := by unfold eE; rw [if_neg k0, if_neg (by omega)]
          have w2 : eB sep r k = (edg sep r 1 0 0 k).1 := by unfold eB; rw [if_neg k0, if_neg (by omega)]
          rw [w1, w2]
      rw [e9]
      refine v_iconst C dL_edge_28 (v := 1) (by decide) ?_
      refine v_istore C dL_edge_29 (by decide) (lv' := [(4, _), (0, _), (1, _), (2, _), (3, _)]) rfl ?_
      refine v_iconst C dL_edge_31 (v := 0) (by decide) ?_
      refine v_istore C dL_edge_32 (by decide) (lv' := [(5, _), (4, _), (0, _), (1, _), (2, _), (3, _)]) rfl ?_
      refine v_iconst C dL_edge_34 (v := 0) (by decide) ?_
      refine v_istore C dL_edge_35 (by decide) (lv' := [(6, _), (5, _), (4, _), (0, _), (1, _), (2, _), (3, _)]) rfl ?_
      obtain ⟨n, j, fr, hj, hf, hn0, hn, hfj, hedg⟩ : ∃ n j fr : Nat, j = 0 ∧ fr = 0 ∧ n = 1 ∧ n ≤ 12 ∧ fr ≤ j ∧ edg sep r 1 0 0 k = edg sep (r.drop j) n j fr k := ⟨1, 0, 0, rfl, rfl, rfl, by decide, Nat.le_refl _, by rw [List.drop_zero]⟩
      refine v_lv (lv' := [(6, .int (nI j)), (5, .int (nI fr)), (4, .int (nI n)), (0, _), (1, _), (2, _), (3, _)]) (by rw [hj, hf, hn0]; rfl) ?_
      have hjl : j ≤ r.length := by omega
      clear hj hf hn0
      induction hd : (r.length - j) using Nat.strongRecOn generalizing n j fr with | _ d ih =>
        refine v_iload C dL_edge_37 (j := 0) rfl ?_
        refine v_aload_n C dL_edge_39 (j := 3) rfl rfl ?_
        refine v_bipush C dL_edge_40 (v := 60) (by decide) ?_
        refine v_iald C dL_edge_42 1 ht1 (N_t (j := 0) (by decide)) (by unfold vp_in; decide) ?_
        refine v_int (b := nI r.length) h2 ?_
        refine v_icmp_ge C 96 dL_edge_43 (by decide) (fun c4 => ?_) (fun c4 => ?_)
        · skip
          have c5 : j = r.length := by have := le_of c4 (by omega) (by omega); omega
          rw [c5, List.drop_length] at hedg
          refine v_iload_n C dL_edge_96 (j := 6) rfl rfl ?_
          refine v_if_eq C 107 dL_edge_97 (by decide) (fun c6 => ?_) (fun c6 => ?_)
          · skip
            refine v_iload C dL_edge_107 (j := 1) rfl ?_
            exact v_ireturn C dL_edge_109 hr (rfl) (Nat.le_of_ble_eq_true rfl) (Nat.le_of_ble_eq_true rfl) (⟨rfl, by rw [bI_0 c6, if_neg (by decide), hedg]; rfl⟩)
          · skip
            refine v_aload_n C dL_edge_100 (j := 3) rfl rfl ?_
            refine v_bipush C dL_edge_101 (v := 60) (by decide) ?_
            refine v_iald C dL_edge_103 1 ht1 (N_t (j := 0) (by decide)) (by unfold vp_in; decide) ?_
            refine v_int (b := nI r.length) h2 ?_
            refine v_goto C 109 dL_edge_104 (by decide) ?_
            exact v_ireturn C dL_edge_109 hr (rfl) (Nat.le_of_ble_eq_true rfl) (Nat.le_of_ble_eq_true rfl) (⟨rfl, by rw [bI_1 c6, if_pos rfl, hedg]; rfl⟩)
        · skip
          have c5 : j < r.length := lt_ofn c4 (by omega) (by omega)
          have hdr : r.drop j = r.getD j 0 :: r.drop (j + 1) := dropc 0 c5
          rw [hdr] at hedg
          refine v_cut0 (pcj := 90) (lvj := [(6, .int (nI j)), (5, .int (nI fr)), (4, .int (nI n)), (0, .ref (ad 0)), (1, .ref (ad 5)), (2, .int (nI k)), (3, .int (bI be))]) (stj := []) (¬ (r.getD j 0 = sep ∧ n < 12)) (fun hw => ?_) (fun K => ?_)
          · skip
            refine v_iinc C dL_edge_90 (j := 0) (v := _ + 1) rfl rfl (by decide) (lv' := [(6, _), (5, _), (4, _), (0, _), (1, _), (2, _), (3, _)]) rfl ?_
            refine v_goto C 37 dL_edge_93 (by decide) ?_
            rw [nI_1]
            exact ih (r.length - (j + 1)) (by omega) n (j + 1) fr hn (by omega) (by rw [hedg]; conv => lhs; unfold edg; rw [if_neg hw]) (by omega) rfl
          · skip
            refine v_aload_n C dL_edge_46 (j := 3) rfl rfl ?_
            refine v_iload C dL_edge_47 (j := 0) rfl ?_
            refine v_iald C dL_edge_49 1 ht1 (N_t (j := 0) (by decide)) (vp_in_nI (by omega) (by decide)) ?_
            refine v_int (b := r.getD j 0) (by rw [nI_clamp (by omega)]; exact h4 j c5) ?_
            refine v_aload_n C dL_edge_50 (j := 4) rfl rfl ?_
            refine v_iconst C dL_edge_51 (v := 0) (by decide) ?_
            refine v_iald C dL_edge_52 1 ht1 N_g (by unfold vp_in; decide) ?_
            refine v_int (b := sep) hg ?_
            refine v_icmp_ne C 90 dL_edge_53 (by decide) (fun c6 => ?_) (fun c6 => ?_)
            · skip
              exact K (fun z => c6 z.1)
            · skip
              refine v_iload C dL_edge_56 (j := 2) rfl ?_
              refine v_bipush C dL_edge_58 (v := 12) (by decide) ?_
              refine v_icmp_ge C 90 dL_edge_60 (by decide) (fun c7 => ?_) (fun c7 => ?_)
              · skip
                exact K (fun z => by have := le_of (a := 12) c7 (by decide) (by omega); omega)
              · skip
                have c8 : n < 12 := lt_ofn (a := 12) c7 (by decide) (by omega)
                refine v_iload C dL_edge_63 (j := 2) rfl ?_
                refine v_iload_n C dL_edge_65 (j := 5) rfl rfl ?_
                refine v_icmp_ne C 81 dL_edge_66 (by decide) (fun c9 => ?_) (fun c9 => ?_)
                · skip
                  have c10 : n ≠ k := fun z => c9 (by rw [z])
                  refine v_iinc C dL_edge_81 (j := 2) (v := _ + 1) rfl rfl (by decide) (lv' := [(4, _), (6, _), (5, _), (0, _), (1, _), (2, _), (3, _)]) rfl ?_
                  refine v_iload C dL_edge_84 (j := 1) rfl ?_
                  refine v_iconst C dL_edge_86 (v := 1) (by decide) ?_
                  refine v_iadd C dL_edge_87 ?_
                  refine v_istore C dL_edge_88 (by decide) (lv' := [(5, _), (4, _), (6, _), (0, _), (1, _), (2, _), (3, _)]) rfl ?_
                  refine v_iinc C dL_edge_90 (j := 2) (v := _ + 1) rfl rfl (by decide) (lv' := [(6, _), (5, _), (4, _), (0, _), (1, _), (2, _), (3, _)]) rfl ?_
                  refine v_goto C 37 dL_edge_93 (by decide) ?_
                  rw [nI_1, nI_1]
                  exact ih (r.length - (j + 1)) (by omega) (n + 1) (j + 1) (j + 1) (by omega) (by omega) (by rw [hedg]; conv => lhs; unfold edg; rw [if_pos ⟨c6, c8⟩, if_neg c10]) (by omega) rfl
                · skip
                  have c10 : n = k := by have := congrArg Int32.toNatClampNeg c9; rw [nI_clamp (by omega), nI_clamp (by omega)] at this; exact this
                  have e10 : edg sep (r.getD j 0 :: r.drop (j + 1)) n j fr k = (fr, j) := by unfold edg; rw [if_pos ⟨c6, c8⟩, if_pos c10]
                  refine v_iload_n C dL_edge_69 (j := 6) rfl rfl ?_
                  refine v_if_eq C 78 dL_edge_70 (by decide) (fun c11 => ?_) (fun c11 => ?_)
                  · skip
                    refine v_iload C dL_edge_78 (j := 1) rfl ?_
                    exact v_ireturn C dL_edge_80 hr (rfl) (Nat.le_of_ble_eq_true rfl) (Nat.le_of_ble_eq_true rfl) (⟨rfl, by rw [bI_0 c11, if_neg (by decide), hedg, e10]⟩)
                  · skip
                    refine v_iload C dL_edge_73 (j := 0) rfl ?_
                    refine v_goto C 80 dL_edge_75 (by decide) ?_
                    exact v_ireturn C dL_edge_80 hr (rfl) (Nat.le_of_ble_eq_true rfl) (Nat.le_of_ble_eq_true rfl) (⟨rfl, by rw [bI_1 c11, if_pos rfl, hedg, e10]⟩)
    · skip
      refine v_iconst C dL_edge_26 (v := 0) (by decide) ?_
      exact v_ireturn C dL_edge_27 hr (rfl) (Nat.le_of_ble_eq_true rfl) (Nat.le_of_ble_eq_true rfl) (⟨rfl, by have c3 := lt_ofn c2 (by omega) (by omega); unfold eE eB; rw [if_neg k0, if_neg k0, if_pos c3, if_pos c3]; cases be <;> rfl⟩)
  · skip
    have k0 : k = 0 := by have := congrArg Int32.toNatClampNeg c1; rw [nI_clamp (by omega)] at this; exact this
    refine v_iload_n C dL_edge_4 (j := 3) rfl rfl ?_
    refine v_if_eq C 15 dL_edge_5 (by decide) (fun c2 => ?_) (fun c2 => ?_)
    · skip
      refine v_iconst C dL_edge_15 (v := 0) (by decide) ?_
      exact v_ireturn C dL_edge_16 hr (rfl) (Nat.le_of_ble_eq_true rfl) (Nat.le_of_ble_eq_true rfl) (⟨rfl, by rw [bI_0 c2, if_neg (by decide)]; unfold eB; rw [if_pos k0]; rfl⟩)
    · skip
      refine v_aload_n C dL_edge_8 (j := 0) rfl rfl ?_
      refine v_bipush C dL_edge_9 (v := 60) (by decide) ?_
      refine v_iald C dL_edge_11 1 ht1 (N_t (j := 0) (by decide)) (by unfold vp_in; decide) ?_
      refine v_int (b := nI r.length) h2 ?_
      refine v_goto C 16 dL_edge_12 (by decide) ?_
      exact v_ireturn C dL_edge_16 hr (rfl) (Nat.le_of_ble_eq_true rfl) (Nat.le_of_ble_eq_true rfl) (⟨rfl, by rw [bI_1 c2, if_pos rfl]; unfold eE; rw [if_pos k0]⟩)
theorem n_edB (ht1 : tys[1]? = some (cI, .int)) (hR : nT 0 X r) (hg : X 5 0 = sep) {k : Nat} (hk : k ≤ 12) : ct D tys z0 A (picN pic0 cI cJ ad al A) l yL_edge wsL_edge (rmL 1 23) [.ref (ad 0), .ref (ad 5), .int (nI k), .int 0] (y0, X, Y) (qI (picN pic0 cI cJ ad al A) A (fun q x => x = (y0, X, Y) ∧ q = nI (eB sep r k))) := n_edge ht1 hR hg hk false
theorem n_edE (ht1 : tys[1]? = some (cI, .int)) (hR : nT 0 X r) (hg : X 5 0 = sep) {k : Nat} (hk : k ≤ 12) : ct D tys z0 A (picN pic0 cI cJ ad al A) l yL_edge wsL_edge (rmL 1 23) [.ref (ad 0), .ref (ad 5), .int (nI k), .int 1] (y0, X, Y) (qI (picN pic0 cI cJ ad al A) A (fun q x => x = (y0, X, Y) ∧ q = nI (eE sep r k))) := n_edge ht1 hR hg hk true
end NE
