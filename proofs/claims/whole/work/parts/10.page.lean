/-! ===== Page: get, join, cut, set, load ===== -/
theorem wfX4_get_12 : Cond.fieldLink RX4 12 "FieldScribe$Page" (TX4 0).2.1 (TX4 0).2.2.1 ∈ wsX4_get := by decide +kernel
theorem wiX4_get_X4 : ∀ w ∈ u_ws RX4 TX4 5, w ∈ wsX4_get := by decide +kernel
theorem wfX4_get_18 : Cond.fieldLink RX4 18 "FieldScribe$Page" (TX4 1).2.1 (TX4 1).2.2.1 ∈ wsX4_get := by decide +kernel
theorem wfX4_join_12 : Cond.fieldLink RX4 12 "FieldScribe$Page" (TX4 0).2.1 (TX4 0).2.2.1 ∈ wsX4_join := by decide +kernel
theorem wiX4_join_X4 : ∀ w ∈ u_ws RX4 TX4 5, w ∈ wsX4_join := by decide +kernel
theorem wfX4_join_22 : Cond.fieldLink RX4 22 "FieldScribe$Page" (TX4 2).2.1 (TX4 2).2.2.1 ∈ wsX4_join := by decide +kernel
theorem F_ne {f : Nat → Option va_E} {a b : Nat} {x y : va_E} (ha : f a = some x) (hb : f b = some y) (h : x ≠ y) : a ≠ b := fun e => h (by rw [e, hb] at ha; exact (Option.some.inj ha).symm)
def pgO (f : Nat → Option va_E) (cT : ClassId) (pg wh pa : Nat) (pc : Nat → Nat) (sep cnt num : Int32) : Prop :=
  f pg = some (.inr (4, [.ref wh, .ref pa, .int sep, .int cnt, .int num])) ∧ ∃ pf : Nat → Option Nat, f pa = some (.inl (cT, 12, .inr (.inr (.inr (.inr pf))))) ∧ ∀ k, k < 12 → pf k = some (pc k)
def pgD (wh : Nat) (pc : Nat → Nat) : Prop := (∀ k, k < 12 → pc k ≠ wh) ∧ ∀ i j, i < 12 → j < 12 → pc i = pc j → i = j
/-- the page's cell -/
def pgE (wh pa : Nat) (sep cnt num : Int32) : Option va_E := some (.inr (4, [.ref wh, .ref pa, .int sep, .int cnt, .int num]))
/-- the pieces became P, other texts stayed -/
def samT (T T' : Nat → Option (List Int32)) (pc : Nat → Nat) (P : Nat → List Int32) : Prop := (∀ j, j < 12 → T' (pc j) = some (P j)) ∧ ∀ q, (∀ j, j < 12 → q ≠ pc j) → T' q = T q
theorem pgO.up {f : Nat → Option va_E} {cT : ClassId} {pg wh pa : Nat} {pc : Nat → Nat} {sep cnt num sep' cnt' num' : Int32} (h : pgO f cT pg wh pa pc sep cnt num) : pgO (va_up f pg (pgE wh pa sep' cnt' num')) cT pg wh pa pc sep' cnt' num' := by
  obtain ⟨h1, pf, h2, h3⟩ := h
  refine ⟨va_up_same _ _ _, pf, ?_, h3⟩
  rw [va_up_other _ _ _ (F_ne h2 h1 (by intro z; cases z))]
  exact h2
section PG
variable {l : Launch} {D : va_G} {tys : List (ClassId × FieldType)} {z0 : Nat} {A : Nat → Prop} {cC cT : ClassId} {f : Nat → Option va_E} {T : Nat → Option (List Int32)} {pg wh pa : Nat} {pc : Nat → Nat} {sep cnt num : Int32}
set_option maxRecDepth 100000 in
set_option maxHeartbeats 4000000 in
theorem k_pget (ht4 : tys[4]? = some (cT, .object RX10)) (hO : pgO f cT pg wh pa pc sep cnt num) {k : Nat} (hk : k ≤ 12) : ct D tys z0 A (picF D cC A) l yX4_get wsX4_get rm0 [.ref pg, .int (nI k)] (f, T) (qR (picF D cC A) A (fun r x => x = (f, T) ∧ r = if k = 0 then wh else pc (k - 1))) := by
  refine ct_of RX4 (by decide +kernel) rfl rfl (Nat.le_of_ble_eq_true rfl) ?_
  intro p e s m below meth c C hr hm
  refine v_lv (lv' := [(0, _), (1, _)]) rfl ?_
  obtain ⟨hpg, pf, hpa, hpf⟩ := hO
  refine v_iload_n C dX4_get_0 (j := 1) rfl rfl ?_
  refine v_iconst C dX4_get_1 (v := 1) (by decide) ?_
  refine v_icmp_lt C 25 dX4_get_2 (by decide) (fun c1 => ?_) (fun c1 => ?_)
  · skip
    have c2 : k = 0 := by have := lt_of (b := 1) c1 (by omega) (by decide); omega
    refine v_aload_n C dX4_get_25 (j := 0) rfl rfl ?_
    refine v_get C (T := TX4) (ci := 4) (j := 0) dX4_get_26 wiX4_get_X4 rfl (by decide) wfX4_get_12 (fun _ h => h) (FF_get hpg rfl) ?_
    exact v_areturn C dX4_get_29 hr (Or.inl ⟨_, rfl⟩) (Nat.le_of_ble_eq_true rfl) (Nat.le_of_ble_eq_true rfl) (⟨rfl, by rw [if_pos c2]⟩)
  · skip
    have c2 : 1 ≤ k := le_ofn (b := 1) c1 (by omega) (by decide)
    refine v_iload_n C dX4_get_5 (j := 1) rfl rfl ?_
    refine v_aload_n C dX4_get_6 (j := 0) rfl rfl ?_
    refine v_get C (T := TX4) (ci := 4) (j := 1) dX4_get_7 wiX4_get_X4 rfl (by decide) wfX4_get_18 (fun _ h => h) (FF_get hpg rfl) ?_
    refine v_alen C (v := nI 12) dX4_get_10 4 ht4 (FF_arr hpa) rfl ?_
    refine v_icmp_gt C 25 dX4_get_11 (by decide) (fun c3 => absurd c3 (by intro; have := lt_of c3 (by decide) (by omega); omega)) (fun c3 => ?_)
    refine v_aload_n C dX4_get_14 (j := 0) rfl rfl ?_
    refine v_get C (T := TX4) (ci := 4) (j := 1) dX4_get_15 wiX4_get_X4 rfl (by decide) wfX4_get_18 (fun _ h => h) (FF_get hpg rfl) ?_
    refine v_iload_n C dX4_get_18 (j := 1) rfl rfl ?_
    refine v_iconst C dX4_get_19 (v := 1) (by decide) ?_
    refine v_isub C dX4_get_20 ?_
    refine v_int (b := nI (k - 1)) (pk_sub (b := 1) c2) ?_
    refine v_aald C dX4_get_21 4 ht4 (FF_arr hpa) (vp_in_nI (by omega) (by decide)) (w := some (pc (k - 1))) (by rw [nI_clamp (by omega)]; exact hpf _ (by omega)) ?_
    refine v_eq (w := .ref (pc (k - 1))) rfl ?_
    refine v_goto C 29 dX4_get_22 (by decide) ?_
    exact v_areturn C dX4_get_29 hr (Or.inl ⟨_, rfl⟩) (Nat.le_of_ble_eq_true rfl) (Nat.le_of_ble_eq_true rfl) (⟨rfl, by rw [if_neg (by omega)]⟩)
set_option maxRecDepth 100000 in
set_option maxHeartbeats 4000000 in
theorem k_join (ht : tys[0]? = some (cC, .char)) (ht4 : tys[4]? = some (cT, .object RX10)) (hO : pgO f cT pg wh pa pc sep cnt num) (hD : pgD wh pc) (hsep : ch sep) {P : Nat → List Int32} {r0 : List Int32} (hW : T wh = some r0) (hP : ∀ j, j < 12 → T (pc j) = some (P j)) {m0 : Nat} (hm0 : m0 ≤ 12) :
    ct D tys z0 A (picF D cC A) l yX4_join wsX4_join (rmL 2 44) [.ref pg, .int (nI m0)] (f, T) (qV (picF D cC A) A (fun x => x = (f, va_up T wh (some (joinG sep (fun j => P (j - 1)) m0))))) := by
  refine ct_of RX4 (by decide +kernel) rfl rfl (Nat.le_of_ble_eq_true rfl) ?_
  intro p e s m below meth c C hr hm
  refine v_lv (lv' := [(0, _), (1, _)]) rfl ?_
  have hO2 := hO
  obtain ⟨hpg, pf, hpa, hpf⟩ := hO2
  refine v_aload_n C dX4_join_0 (j := 0) rfl rfl ?_
  refine v_get C (T := TX4) (ci := 4) (j := 0) dX4_join_1 wiX4_join_X4 rfl (by decide) wfX4_join_12 (fun _ h => h) (FF_get hpg rfl) ?_
  refine v_cv (v_runV C (k_clear hW) (cwV 0 C.1.2.2.2.2 gX4_join_X10_clear rfl rfl rfl (by decide +kernel) ⟨Nat.le_of_ble_eq_true rfl, Nat.le_of_ble_eq_true rfl⟩) rfl rfl (FF_txt hW) dX4_join_4 (rest := []) (Nat.le_of_ble_eq_true rfl) rfl ⟨Nat.le_of_ble_eq_true rfl, Nat.le_of_ble_eq_true rfl⟩) (fun x' hx' => ?_)
  subst hx'
  refine v_iconst C dX4_join_7 (v := 1) (by decide) ?_
  refine v_istore_n C dX4_join_8 rfl (by decide) (lv' := [(2, _), (0, _), (1, _)]) rfl ?_
  obtain ⟨i, T1, hi, hT1, hi2⟩ : ∃ (i : Nat) (T1 : Nat → Option (List Int32)), i = 0 ∧ T1 = va_up T wh (some (joinG sep (fun j => P (j - 1)) i)) ∧ i ≤ m0 := ⟨0, _, rfl, rfl, Nat.zero_le _⟩
  refine v_x (x' := (f, T1)) (fun H hP => by rw [hT1, hi]; exact hP) ?_
  refine v_lv (lv' := [(2, .int (nI (i + 1))), (0, _), (1, _)]) (by rw [hi]; rfl) ?_
  clear hi
  induction hd : (m0 - i) using Nat.strongRecOn generalizing i T1 with | _ d ih =>
    refine v_iload_n C dX4_join_9 (j := 0) rfl rfl ?_
    refine v_iload_n C dX4_join_10 (j := 2) rfl rfl ?_
    refine v_icmp_gt C 48 dX4_join_11 (by decide) (fun c1 => ?_) (fun c1 => ?_)
    · skip
      have c2 : i = m0 := by have := lt_of c1 (by omega) (by omega); omega
      exact v_return C dX4_join_48 hr (Nat.le_of_ble_eq_true rfl) (Nat.le_of_ble_eq_true rfl) (by rw [hT1, c2])
    · skip
      have c2 : i < m0 := by have := le_ofn c1 (by omega) (by omega); omega
      refine v_cutX (α := Nat → Option (List Int32)) (fun w => (f, w)) (pcj := 30) (fun _ => [(2, .int (nI (i + 1))), (0, .ref pg), (1, .int (nI m0))]) (fun _ => []) (fun w => w = va_up T wh (some (if i = 0 then [] else put60 (joinG sep (fun j => P (j - 1)) i) sep))) (fun w hw => ?_) (fun K => ?_)
      · skip
        have hw1 : w wh = some (if i = 0 then [] else put60 (joinG sep (fun j => P (j - 1)) i) sep) := by rw [hw, va_up_same]
        have hwp : w (pc i) = some (P i) := by rw [hw, va_up_other _ _ _ (hD.1 i (by omega))]; exact hP i (by omega)
        refine v_aload_n C dX4_join_30 (j := 1) rfl rfl ?_
        refine v_get C (T := TX4) (ci := 4) (j := 0) dX4_join_31 wiX4_join_X4 rfl (by decide) wfX4_join_12 (fun _ h => h) (FF_get hpg rfl) ?_
        refine v_aload_n C dX4_join_34 (j := 1) rfl rfl ?_
        refine v_iload_n C dX4_join_35 (j := 0) rfl rfl ?_
        refine v_cr (v_runV C (k_pget ht4 hO (by omega)) (cwV 1 C.1.2.2.2.2 gX4_join_X4_get rfl rfl rfl (by decide +kernel) ⟨Nat.le_of_ble_eq_true rfl, Nat.le_of_ble_eq_true rfl⟩) rfl rfl ((FF_get hpg (k := 0) rfl).gC) dX4_join_36 (rest := [_]) (Nat.le_of_ble_eq_true rfl) rfl ⟨Nat.le_of_ble_eq_true rfl, Nat.le_of_ble_eq_true rfl⟩) (fun r x' hx' => ?_)
        obtain ⟨rfl, hr3⟩ := hx'
        rw [if_neg (by omega), Nat.add_sub_cancel] at hr3
        subst hr3
        refine v_cv (v_runV C (k_add ht hw1 hwp (hD.1 i (by omega))) (cwV 1 C.1.2.2.2.2 gX4_join_X10_add rfl rfl rfl (by decide +kernel) ⟨Nat.le_of_ble_eq_true rfl, Nat.le_of_ble_eq_true rfl⟩) rfl rfl (FF_txt hw1) dX4_join_39 (rest := []) (Nat.le_of_ble_eq_true rfl) rfl ⟨Nat.le_of_ble_eq_true rfl, Nat.le_of_ble_eq_true rfl⟩) (fun x' hx' => ?_)
        subst hx'
        refine v_iinc C dX4_join_42 (j := 0) (v := _ + 1) rfl rfl (by decide) (lv' := [(2, _), (0, _), (1, _)]) rfl ?_
        refine v_goto C 9 dX4_join_45 (by decide) ?_
        refine v_lv (lv' := [(2, .int (nI (i + 1 + 1))), (0, _), (1, _)]) (by rw [← nI_1 (i + 1)]) ?_
        exact ih (m0 - (i + 1)) (by omega) (i + 1) _ (by rw [hw, up_up]; rfl) (by omega) rfl
      · skip
        refine v_iload_n C dX4_join_14 (j := 0) rfl rfl ?_
        refine v_iconst C dX4_join_15 (v := 1) (by decide) ?_
        refine v_icmp_le C 30 dX4_join_16 (by decide) (fun c3 => ?_) (fun c3 => ?_)
        · skip
          have c4 : i = 0 := by have := le_of (b := 1) c3 (by omega) (by decide); omega
          exact K T1 (by rw [hT1, c4]; rfl)
        · skip
          have c4 : i ≠ 0 := fun z => c3 (by rw [z]; exact Int32.le_refl _)
          have hw1 : T1 wh = some (joinG sep (fun j => P (j - 1)) i) := by rw [hT1, va_up_same]
          refine v_aload_n C dX4_join_19 (j := 1) rfl rfl ?_
          refine v_get C (T := TX4) (ci := 4) (j := 0) dX4_join_20 wiX4_join_X4 rfl (by decide) wfX4_join_12 (fun _ h => h) (FF_get hpg rfl) ?_
          refine v_aload_n C dX4_join_23 (j := 1) rfl rfl ?_
          refine v_get C (T := TX4) (ci := 4) (j := 2) dX4_join_24 wiX4_join_X4 rfl (by decide) wfX4_join_22 (fun _ h => h) (FF_get hpg rfl) ?_
          refine v_cv (v_runV C (k_put ht hw1 hsep) (cwV 1 C.1.2.2.2.2 gX4_join_X10_put rfl rfl rfl (by decide +kernel) ⟨Nat.le_of_ble_eq_true rfl, Nat.le_of_ble_eq_true rfl⟩) rfl rfl (FF_txt hw1) dX4_join_27 (rest := []) (Nat.le_of_ble_eq_true rfl) rfl ⟨Nat.le_of_ble_eq_true rfl, Nat.le_of_ble_eq_true rfl⟩) (fun x' hx' => ?_)
          subst hx'
          exact K _ (by rw [hT1, up_up, if_neg c4])
end PG
