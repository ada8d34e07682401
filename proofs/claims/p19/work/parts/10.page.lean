/-! ===== Page: get, join, cut, set, load ===== -/
theorem wfX4_get_12 : Cond.fieldLink RX4 12 "FieldScribe$Page" (TX4 0).2.1 (TX4 0).2.2.1 ∈ wsX4_get := by decide +kernel
theorem wiX4_get_X4 : ∀ w ∈ u_ws RX4 TX4 5, w ∈ wsX4_get := by decide +kernel
theorem wfX4_get_18 : Cond.fieldLink RX4 18 "FieldScribe$Page" (TX4 1).2.1 (TX4 1).2.2.1 ∈ wsX4_get := by decide +kernel
theorem wfX4_join_12 : Cond.fieldLink RX4 12 "FieldScribe$Page" (TX4 0).2.1 (TX4 0).2.2.1 ∈ wsX4_join := by decide +kernel
theorem wiX4_join_X4 : ∀ w ∈ u_ws RX4 TX4 5, w ∈ wsX4_join := by decide +kernel
theorem wfX4_join_22 : Cond.fieldLink RX4 22 "FieldScribe$Page" (TX4 2).2.1 (TX4 2).2.2.1 ∈ wsX4_join := by decide +kernel
theorem wfX4_cut_18 : Cond.fieldLink RX4 18 "FieldScribe$Page" (TX4 1).2.1 (TX4 1).2.2.1 ∈ wsX4_cut := by decide +kernel
theorem wiX4_cut_X4 : ∀ w ∈ u_ws RX4 TX4 5, w ∈ wsX4_cut := by decide +kernel
theorem wfX4_cut_34 : Cond.fieldLink RX4 34 "FieldScribe$Page" (TX4 3).2.1 (TX4 3).2.2.1 ∈ wsX4_cut := by decide +kernel
theorem wfX4_cut_12 : Cond.fieldLink RX4 12 "FieldScribe$Page" (TX4 0).2.1 (TX4 0).2.2.1 ∈ wsX4_cut := by decide +kernel
theorem wiX4_cut_X10 : ∀ w ∈ u_ws RX10 TX10 2, w ∈ wsX4_cut := by decide +kernel
theorem wfX4_cut_22 : Cond.fieldLink RX4 22 "FieldScribe$Page" (TX4 2).2.1 (TX4 2).2.2.1 ∈ wsX4_cut := by decide +kernel
theorem F_ne {f : Nat → Option va_E} {a b : Nat} {x y : va_E} (ha : f a = some x) (hb : f b = some y) (h : x ≠ y) : a ≠ b := fun e => h (by rw [e, hb] at ha; exact (Option.some.inj ha).symm)
def pgO (f : Nat → Option va_E) (cT : ClassId) (pg wh pa : Nat) (pc : Nat → Nat) (sep cnt num : Int32) : Prop :=
  f pg = some (.inr (4, [.ref wh, .ref pa, .int sep, .int cnt, .int num])) ∧ ∃ pf : Nat → Option Nat, f pa = some (.inl (cT, 12, .inr (.inr (.inr (.inr pf))))) ∧ ∀ k, k < 12 → pf k = some (pc k)
def pgD (wh : Nat) (pc : Nat → Nat) : Prop := (∀ k, k < 12 → pc k ≠ wh) ∧ ∀ i j, i < 12 → j < 12 → pc i = pc j → i = j
/-- the page's cell -/
def pgE (wh pa : Nat) (sep cnt num : Int32) : Option va_E := some (.inr (4, [.ref wh, .ref pa, .int sep, .int cnt, .int num]))
/-- the pieces became P, other texts stayed -/
def samT (T T' : Nat → Option (List Int32)) (pc : Nat → Nat) (P : Nat → List Int32) : Prop := (∀ j, j < 12 → T' (pc j) = some (P j)) ∧ ∀ q, (∀ j, j < 12 → q ≠ pc j) → T' q = T q
theorem pgO.up {f : Nat → Option va_E} {cT : ClassId} {pg wh pa : Nat} {pc : Nat → Nat} {sep cnt num sep' cnt' num' : Int32} (h : pgO f cT pg wh pa pc sep cnt num) : pgO (va_up f pg (pgE wh pa sep' cnt' num')) cT pg wh pa pc sep' cnt' num' := by
  obtain ⟨h1, pf, h2, h3⟩ := h
  refine ⟨va_up_same _ _ _, pf, ?_, h3⟩
  rw [va_up_other _ _ _ (F_ne h2 h1 (by intro z; cases z))]
  exact h2
section PG
variable {l : Launch} {D : va_G} {tys : List (ClassId × FieldType)} {z0 : Nat} {A : Nat → Prop} {cC cT : ClassId} {f : Nat → Option va_E} {T : Nat → Option (List Int32)} {pg wh pa : Nat} {pc : Nat → Nat} {sep cnt num : Int32}
set_option maxRecDepth 100000 in
set_option maxHeartbeats 4000000 in
theorem k_pget (ht4 : tys[4]? = some (cT, .object RX10)) (hO : pgO f cT pg wh pa pc sep cnt num) {k : Nat} (hk : k ≤ 12) : ct D tys z0 A (picF D cC A) l yX4_get wsX4_get rm0 [.ref pg, .int (nI k)] (f, T) (qR (picF D cC A) A (fun r x => x = (f, T) ∧ r = if k = 0 then wh else pc (k - 1))) := by
  refine ct_of RX4 (by decide +kernel) rfl rfl (Nat.le_of_ble_eq_true rfl) ?_
  intro p e s m below meth c C hr hm
  refine v_lv (lv' := [(0, _), (1, _)]) rfl ?_
  obtain ⟨hpg, pf, hpa, hpf⟩ := hO
  refine v_iload_n C dX4_get_0 (j := 1) rfl rfl ?_
  refine v_iconst C dX4_get_1 (v := 1) (by decide) ?_
  refine v_icmp_lt C 25 dX4_get_2 (by decide) (fun c1 => ?_) (fun c1 => ?_)
  · skip
    have c2 : k = 0 := by have := lt_of (b := 1) c1 (by omega) (by decide); omega
    refine v_aload_n C dX4_get_25 (j := 0) rfl rfl ?_
    refine v_get C (T := TX4) (ci := 4) (j := 0) dX4_get_26 wiX4_get_X4 rfl (by decide) wfX4_get_12 (fun _ h => h) (FF_get hpg rfl) ?_
    exact v_areturn C dX4_get_29 hr (Or.inl ⟨_, rfl⟩) (Nat.le_of_ble_eq_true rfl) (Nat.le_of_ble_eq_true rfl) (⟨rfl, by rw [if_pos c2]⟩)
  · skip
    have c2 : 1 ≤ k := le_ofn (b := 1) c1 (by omega) (by decide)
    refine v_iload_n C dX4_get_5 (j := 1) rfl rfl ?_
    refine v_aload_n C dX4_get_6 (j := 0) rfl rfl ?_
    refine v_get C (T := TX4) (ci := 4) (j := 1) dX4_get_7 wiX4_get_X4 rfl (by decide) wfX4_get_18 (fun _ h => h) (FF_get hpg rfl) ?_
    refine v_alen C (v := nI 12) dX4_get_10 4 ht4 (FF_arr hpa) rfl ?_
    refine v_icmp_gt C 25 dX4_get_11 (by decide) (fun c3 => absurd c3 (by intro; have := lt_of c3 (by decide) (by omega); omega)) (fun c3 => ?_)
    refine v_aload_n C dX4_get_14 (j := 0) rfl rfl ?_
    refine v_get C (T := TX4) (ci := 4) (j := 1) dX4_get_15 wiX4_get_X4 rfl (by decide) wfX4_get_18 (fun _ h => h) (FF_get hpg rfl) ?_
    refine v_iload_n C dX4_get_18 (j := 1) rfl rfl ?_
    refine v_iconst C dX4_get_19 (v := 1) (by decide) ?_
    refine v_isub C dX4_get_20 ?_
    refine v_int (b := nI (k - 1)) (pk_sub (b := 1) c2) ?_
    refine v_aald C dX4_get_21 4 ht4 (FF_arr hpa) (vp_in_nI (by omega) (by decide)) (w := some (pc (k - 1))) (by rw [nI_clamp (by omega)]; exact hpf _ (by omega)) ?_
    refine v_eq (w := .ref (pc (k - 1))) rfl ?_
    refine v_goto C 29 dX4_get_22 (by decide) ?_
    exact v_areturn C dX4_get_29 hr (Or.inl ⟨_, rfl⟩) (Nat.le_of_ble_eq_true rfl) (Nat.le_of_ble_eq_true rfl) (⟨rfl, by rw [if_neg (by omega)]⟩)
set_option maxRecDepth 100000 in
set_option maxHeartbeats 4000000 in
theorem k_join (ht : tys[0]? = some (cC, .char)) (ht4 : tys[4]? = some (cT, .object RX10)) (hO : pgO f cT pg wh pa pc sep cnt num) (hD : pgD wh pc) (hsep : ch sep) {P : Nat → List Int32} {r0 : List Int32} (hW : T wh = some r0) (hP : ∀ j, j < 12 → T (pc j) = some (P j)) {m0 : Nat} (hm0 : m0 ≤ 12) :
    ct D tys z0 A (picF D cC A) l yX4_join wsX4_join (rmL 2 44) [.ref pg, .int (nI m0)] (f, T) (qV (picF D cC A) A (fun x => x = (f, va_up T wh (some (joinG sep (fun j => P (j - 1)) m0))))) := by
  refine ct_of RX4 (by decide +kernel) rfl rfl (Nat.le_of_ble_eq_true rfl) ?_
  intro p e s m below meth c C hr hm
  refine v_lv (lv' := [(0, _), (1, _)]) rfl ?_
  have hO2 := hO
  obtain ⟨hpg, pf, hpa, hpf⟩ := hO2
  refine v_aload_n C dX4_join_0 (j := 0) rfl rfl ?_
  refine v_get C (T := TX4) (ci := 4) (j := 0) dX4_join_1 wiX4_join_X4 rfl (by decide) wfX4_join_12 (fun _ h => h) (FF_get hpg rfl) ?_
  refine v_cv (v_runV C (k_clear hW) (cwV 0 C.1.2.2.2.2 gX4_join_X10_clear rfl rfl rfl (by decide +kernel) ⟨Nat.le_of_ble_eq_true rfl, Nat.le_of_ble_eq_true rfl⟩) rfl rfl (FF_txt hW) dX4_join_4 (rest := []) (Nat.le_of_ble_eq_true rfl) rfl ⟨Nat.le_of_ble_eq_true rfl, Nat.le_of_ble_eq_true rfl⟩) (fun x' hx' => ?_)
  subst hx'
  refine v_iconst C dX4_join_7 (v := 1) (by decide) ?_
  refine v_istore_n C dX4_join_8 rfl (by decide) (lv' := [(2, _), (0, _), (1, _)]) rfl ?_
  obtain ⟨i, T1, hi, hT1, hi2⟩ : ∃ (i : Nat) (T1 : Nat → Option (List Int32)), i = 0 ∧ T1 = va_up T wh (some (joinG sep (fun j => P (j - 1)) i)) ∧ i ≤ m0 := ⟨0, _, rfl, rfl, Nat.zero_le _⟩
  refine v_x (x' := (f, T1)) (fun H hP => by rw [hT1, hi]; exact hP) ?_
  refine v_lv (lv' := [(2, .int (nI (i + 1))), (0, _), (1, _)]) (by rw [hi]; rfl) ?_
  clear hi
  induction hd : (m0 - i) using Nat.strongRecOn generalizing i T1 with | _ d ih =>
    refine v_iload_n C dX4_join_9 (j := 0) rfl rfl ?_
    refine v_iload_n C dX4_join_10 (j := 2) rfl rfl ?_
    refine v_icmp_gt C 48 dX4_join_11 (by decide) (fun c1 => ?_) (fun c1 => ?_)
    · skip
      have c2 : i = m0 := by have := lt_of c1 (by omega) (by omega); omega
      exact v_return C dX4_join_48 hr (Nat.le_of_ble_eq_true rfl) (Nat.le_of_ble_eq_true rfl) (by rw [hT1, c2])
    · skip
      have c2 : i < m0 := by have := le_ofn c1 (by omega) (by omega); omega
      refine v_cutX (α := Nat → Option (List Int32)) (fun w => (f, w)) (pcj := 30) (fun _ => [(2, .int (nI (i + 1))), (0, .ref pg), (1, .int (nI m0))]) (fun _ => []) (fun w => w = va_up T wh (some (if i = 0 then [] else put60 (joinG sep (fun j => P (j - 1)) i) sep))) (fun w hw => ?_) (fun K => ?_)
      · skip
        have hw1 : w wh = some (if i = 0 then [] else put60 (joinG sep (fun j => P (j - 1)) i) sep) := by rw [hw, va_up_same]
        have hwp : w (pc i) = some (P i) := by rw [hw, va_up_other _ _ _ (hD.1 i (by omega))]; exact hP i (by omega)
        refine v_aload_n C dX4_join_30 (j := 1) rfl rfl ?_
        refine v_get C (T := TX4) (ci := 4) (j := 0) dX4_join_31 wiX4_join_X4 rfl (by decide) wfX4_join_12 (fun _ h => h) (FF_get hpg rfl) ?_
        refine v_aload_n C dX4_join_34 (j := 1) rfl rfl ?_
        refine v_iload_n C dX4_join_35 (j := 0) rfl rfl ?_
        refine v_cr (v_runV C (k_pget ht4 hO (by omega)) (cwV 1 C.1.2.2.2.2 gX4_join_X4_get rfl rfl rfl (by decide +kernel) ⟨Nat.le_of_ble_eq_true rfl, Nat.le_of_ble_eq_true rfl⟩) rfl rfl ((FF_get hpg (k := 0) rfl).gC) dX4_join_36 (rest := [_]) (Nat.le_of_ble_eq_true rfl) rfl ⟨Nat.le_of_ble_eq_true rfl, Nat.le_of_ble_eq_true rfl⟩) (fun r x' hx' => ?_)
        obtain ⟨rfl, hr3⟩ := hx'
        rw [if_neg (by omega), Nat.add_sub_cancel] at hr3
        subst hr3
        refine v_cv (v_runV C (k_add ht hw1 hwp (hD.1 i (by omega))) (cwV 1 C.1.2.2.2.2 gX4_join_X10_add rfl rfl rfl (by decide +kernel) ⟨Nat.le_of_ble_eq_true rfl, Nat.le_of_ble_eq_true rfl⟩) rfl rfl (FF_txt hw1) dX4_join_39 (rest := []) (Nat.le_of_ble_eq_true rfl) rfl ⟨Nat.le_of_ble_eq_true rfl, Nat.le_of_ble_eq_true rfl⟩) (fun x' hx' => ?_)
        subst hx'
        refine v_iinc C dX4_join_42 (j := 0) (v := _ + 1) rfl rfl (by decide) (lv' := [(2, _), (0, _), (1, _)]) rfl ?_
        refine v_goto C 9 dX4_join_45 (by decide) ?_
        refine v_lv (lv' := [(2, .int (nI (i + 1 + 1))), (0, _), (1, _)]) (by rw [← nI_1 (i + 1)]) ?_
        exact ih (m0 - (i + 1)) (by omega) (i + 1) _ (by rw [hw, up_up]; rfl) (by omega) rfl
      · skip
        refine v_iload_n C dX4_join_14 (j := 0) rfl rfl ?_
        refine v_iconst C dX4_join_15 (v := 1) (by decide) ?_
        refine v_icmp_le C 30 dX4_join_16 (by decide) (fun c3 => ?_) (fun c3 => ?_)
        · skip
          have c4 : i = 0 := by have := le_of (b := 1) c3 (by omega) (by decide); omega
          exact K T1 (by rw [hT1, c4]; rfl)
        · skip
          have c4 : i ≠ 0 := fun z => c3 (by rw [z]; exact Int32.le_refl _)
          have hw1 : T1 wh = some (joinG sep (fun j => P (j - 1)) i) := by rw [hT1, va_up_same]
          refine v_aload_n C dX4_join_19 (j := 1) rfl rfl ?_
          refine v_get C (T := TX4) (ci := 4) (j := 0) dX4_join_20 wiX4_join_X4 rfl (by decide) wfX4_join_12 (fun _ h => h) (FF_get hpg rfl) ?_
          refine v_aload_n C dX4_join_23 (j := 1) rfl rfl ?_
          refine v_get C (T := TX4) (ci := 4) (j := 2) dX4_join_24 wiX4_join_X4 rfl (by decide) wfX4_join_22 (fun _ h => h) (FF_get hpg rfl) ?_
          refine v_cv (v_runV C (k_put ht hw1 hsep) (cwV 1 C.1.2.2.2.2 gX4_join_X10_put rfl rfl rfl (by decide +kernel) ⟨Nat.le_of_ble_eq_true rfl, Nat.le_of_ble_eq_true rfl⟩) rfl rfl (FF_txt hw1) dX4_join_27 (rest := []) (Nat.le_of_ble_eq_true rfl) rfl ⟨Nat.le_of_ble_eq_true rfl, Nat.le_of_ble_eq_true rfl⟩) (fun x' hx' => ?_)
          subst hx'
          exact K _ (by rw [hT1, up_up, if_neg c4])
theorem samT.up {T T' : Nat → Option (List Int32)} {pc : Nat → Nat} {P : Nat → List Int32} (hD : pgD wh pc) (h : samT T T' pc P) {j : Nat} (hj : j < 12) (s : List Int32) : samT T (va_up T' (pc j) (some s)) pc (va_up P j s) := by
  refine ⟨fun i hi => ?_, fun q hq => ?_⟩
  · by_cases hij : i = j
    · rw [hij, va_up_same, va_up_same]
    · rw [va_up_other _ _ _ hij, va_up_other _ _ _ (fun z => hij (hD.2 i j hi hj z))]; exact h.1 i hi
  · rw [va_up_other _ _ _ (hq j hj)]; exact h.2 q hq
theorem cutG_le (sep : Int32) : ∀ (r : List Int32) (n : Nat) (P : Nat → List Int32), n ≤ 12 → (cutG sep r n P).1 ≤ 12
  | [], n, P, h => h
  | c :: t, n, P, h => by
    unfold cutG
    split
    next q => exact cutG_le sep t (n + 1) P (by omega)
    next => exact cutG_le sep t n _ h
theorem nfd_le (sep : Int32) (r : List Int32) : nfd sep r ≤ 12 := cutG_le sep r _ _ (by split <;> omega)
set_option maxRecDepth 100000 in
set_option maxHeartbeats 4000000 in
theorem k_cut (ht : tys[0]? = some (cC, .char)) (ht4 : tys[4]? = some (cT, .object RX10)) (hO : pgO f cT pg wh pa pc sep cnt num) (hD : pgD wh pc) {r : List Int32} (hW : T wh = some r) (hP : ∀ j, j < 12 → ∃ s, T (pc j) = some s) :
    ct D tys z0 A (picF D cC A) l yX4_cut wsX4_cut (rmL 1 21) [.ref pg] (f, T) (qV (picF D cC A) A (fun x => ∃ T', x = (va_up f pg (pgE wh pa sep (nI (nfd sep r)) num), T') ∧ samT T T' pc (cutR sep r).2)) := by
  refine ct_of RX4 (by decide +kernel) rfl rfl (Nat.le_of_ble_eq_true rfl) ?_
  intro p e s m below meth c C hr hm
  refine v_lv (lv' := [(0, _)]) rfl ?_
  refine v_use (fun H hP => FF_le hW hP) (fun hle => ?_)
  obtain ⟨hle, hch⟩ := hle
  have hO2 := hO
  obtain ⟨hpg, pf, hpa, hpf⟩ := hO2
  refine v_iconst C dX4_cut_0 (v := 0) (by decide) ?_
  refine v_istore_n C dX4_cut_1 rfl (by decide) (lv' := [(1, _), (0, _)]) rfl ?_
  obtain ⟨i, T1, hi, hT1, hi2, h1, h2, h3⟩ : ∃ (i : Nat) (T1 : Nat → Option (List Int32)), i = 0 ∧ T1 = T ∧ i ≤ 12 ∧ (∀ j, j < i → T1 (pc j) = some []) ∧ (∀ j, j < 12 → ∃ s, T1 (pc j) = some s) ∧ ∀ q, (∀ j, j < 12 → q ≠ pc j) → T1 q = T q := ⟨0, T, rfl, rfl, Nat.zero_le _, fun j hj => absurd hj (Nat.not_lt_zero j), hP, fun _ _ => rfl⟩
  refine v_x (x' := (f, T1)) (fun H hP => by rw [hT1]; exact hP) ?_
  refine v_lv (lv' := [(1, .int (nI i)), (0, _)]) (by rw [hi]; rfl) ?_
  clear hi hT1
  induction hd : (12 - i) using Nat.strongRecOn generalizing i T1 with | _ d ih =>
    refine v_iload_n C dX4_cut_2 (j := 0) rfl rfl ?_
    refine v_aload_n C dX4_cut_3 (j := 1) rfl rfl ?_
    refine v_get C (T := TX4) (ci := 4) (j := 1) dX4_cut_4 wiX4_cut_X4 rfl (by decide) wfX4_cut_18 (fun _ h => h) (FF_get hpg rfl) ?_
    refine v_alen C (v := nI 12) dX4_cut_7 4 ht4 (FF_arr hpa) rfl ?_
    refine v_icmp_ge C 26 dX4_cut_8 (by decide) (fun c1 => ?_) (fun c1 => ?_)
    · skip
      have c2 : i = 12 := by have := le_of c1 (by omega) (by omega); omega
      have hW1 : T1 wh = some r := by rw [h3 wh (fun j hj z => hD.1 j hj z.symm)]; exact hW
      clear ih hd
      refine v_cut (pcj := 42) (lvj := [(1, .int (nI i)), (0, .ref pg)]) (stj := [.ref pg]) (fun w => w = nI (if r = [] then 0 else 1)) (fun w hw => ?_) (fun K => ?_)
      · skip
        subst hw
        refine v_put C (T := TX4) (ci := 4) (j := 3) (ty := .int) dX4_cut_42 wiX4_cut_X4 tyX4 tyX4_ok nmX4 rfl (by decide) wfX4_cut_34 (fun _ h => h) rfl rfl (rfl) (rfl) (FF_put hpg (Nat.le_of_ble_eq_true rfl)) ?_
        refine v_iconst C dX4_cut_45 (v := 0) (by decide) ?_
        refine v_istore_n C dX4_cut_46 rfl (by decide) (lv' := [(1, _), (0, _)]) rfl ?_
        have hP0 : samT T T1 pc (fun _ => []) := ⟨fun j hj => h1 j (by omega), h3⟩
        obtain ⟨j, n, T2, P, hj, hn, hT2, hj2, hn2, hn3, hs, hcg, hlen⟩ : ∃ (j n : Nat) (T2 : Nat → Option (List Int32)) (P : Nat → List Int32), j = 0 ∧ n = (if r = [] then 0 else 1) ∧ T2 = T1 ∧ j ≤ r.length ∧ n ≤ 12 ∧ (r ≠ [] → 1 ≤ n) ∧ samT T T2 pc P ∧ cutG sep (r.drop j) n P = cutR sep r ∧ ∀ q, (P q).length ≤ j := ⟨0, _, T1, fun _ => [], rfl, rfl, rfl, Nat.zero_le _, by split <;> omega, fun z => by rw [if_neg z]; exact Nat.le_refl _, hP0, rfl, fun q => Nat.le_refl _⟩
        refine v_x (x' := (va_up f pg (pgE wh pa sep (nI n) num), T2)) (fun H hP => by rw [hT2, hn]; exact hP) ?_
        refine v_lv (lv' := [(1, .int (nI j)), (0, _)]) (by rw [hj]; rfl) ?_
        clear hj hn hT2
        induction hd : (r.length - j) using Nat.strongRecOn generalizing j n T2 P with | _ d ih =>
          have hO3 := hO.up (sep' := sep) (cnt' := nI n) (num' := num)
          have hO4 := hO3
          obtain ⟨hpg3, pf3, hpa3, hpf3⟩ := hO4
          have hW2 : T2 wh = some r := by rw [hs.2 wh (fun j hj z => hD.1 j hj z.symm)]; exact hW
          refine v_iload_n C dX4_cut_47 (j := 0) rfl rfl ?_
          refine v_aload_n C dX4_cut_48 (j := 1) rfl rfl ?_
          refine v_get C (T := TX4) (ci := 4) (j := 0) dX4_cut_49 wiX4_cut_X4 rfl (by decide) wfX4_cut_12 (fun _ h => h) (FF_get hpg3 rfl) ?_
          refine v_getN C (T := TX10) (ci := 10) (j := 1) dX4_cut_52 wiX4_cut_X10 rfl (by decide) (v_nw C 37 rfl) (fun _ h => h) (FF_len hW2) ?_
          refine v_icmp_ge C 115 dX4_cut_55 (by decide) (fun c3 => ?_) (fun c3 => ?_)
          · skip
            have c4 : r.length ≤ j := le_of c3 (by omega) (by omega)
            rw [List.drop_eq_nil_of_le c4] at hcg
            have e1 : n = nfd sep r := by unfold nfd; rw [← hcg]; rfl
            have e2 : P = (cutR sep r).2 := by rw [← hcg]; rfl
            exact v_return C dX4_cut_115 hr (Nat.le_of_ble_eq_true rfl) (Nat.le_of_ble_eq_true rfl) (⟨T2, by rw [e1], by rw [← e2]; exact hs⟩)
          · skip
            have c4 := lt_ofn c3 (by omega) (by omega)
            refine v_aload_n C dX4_cut_58 (j := 1) rfl rfl ?_
            refine v_get C (T := TX4) (ci := 4) (j := 0) dX4_cut_59 wiX4_cut_X4 rfl (by decide) wfX4_cut_12 (fun _ h => h) (FF_get hpg3 rfl) ?_
            refine v_iload_n C dX4_cut_62 (j := 0) rfl rfl ?_
            refine v_ci (v_runV C (k_at ht hW2 (nI j)) (cwV 1 C.1.2.2.2.2 gX4_cut_X10_at rfl rfl rfl (by decide +kernel) ⟨Nat.le_of_ble_eq_true rfl, Nat.le_of_ble_eq_true rfl⟩) rfl rfl (FF_txt hW2) dX4_cut_63 (rest := []) (Nat.le_of_ble_eq_true rfl) rfl ⟨Nat.le_of_ble_eq_true rfl, Nat.le_of_ble_eq_true rfl⟩) (fun r' x' hx' => ?_)
            obtain ⟨rfl, rfl⟩ := hx'
            refine v_int (b := r.getD j 0) (by unfold atT; rw [if_pos ⟨nI_pos' (by omega), nI_lt c4 (by omega)⟩, nI_clamp (by omega)]) ?_
            rw [drop_cons c4] at hcg
            have hrn : r ≠ [] := fun z => by rw [z] at c4; exact Nat.not_lt_zero _ c4
            refine v_cut0 (pcj := 97) (lvj := [(2, .int (r.getD j 0)), (1, .int (nI j)), (0, .ref pg)]) (stj := []) (¬ (r.getD j 0 = sep ∧ n < 12)) (fun hw => ?_) (fun K => ?_)
            · skip
              have hn4 := hn3 hrn
              have hpn : T2 (pc (n - 1)) = some (P (n - 1)) := hs.1 _ (by omega)
              refine v_aload_n C dX4_cut_97 (j := 2) rfl rfl ?_
              refine v_aload_n C dX4_cut_98 (j := 2) rfl rfl ?_
              refine v_get C (T := TX4) (ci := 4) (j := 3) dX4_cut_99 wiX4_cut_X4 rfl (by decide) wfX4_cut_34 (fun _ h => h) (FF_get hpg3 rfl) ?_
              refine v_cr (v_runV C (k_pget ht4 hO3 hn2) (cwV 1 C.1.2.2.2.2 gX4_cut_X4_get rfl rfl rfl (by decide +kernel) ⟨Nat.le_of_ble_eq_true rfl, Nat.le_of_ble_eq_true rfl⟩) rfl rfl ((FF_get hpg3 (k := 0) rfl).gC) dX4_cut_102 (rest := []) (Nat.le_of_ble_eq_true rfl) rfl ⟨Nat.le_of_ble_eq_true rfl, Nat.le_of_ble_eq_true rfl⟩) (fun r' x' hx' => ?_)
              obtain ⟨rfl, hr3⟩ := hx'
              rw [if_neg (by omega)] at hr3
              subst hr3
              refine v_iload_n C dX4_cut_105 (j := 0) rfl rfl ?_
              refine v_cv (v_runV C (k_put ht hpn (chs_getD hch c4)) (cwV 1 C.1.2.2.2.2 gX4_cut_X10_put rfl rfl rfl (by decide +kernel) ⟨Nat.le_of_ble_eq_true rfl, Nat.le_of_ble_eq_true rfl⟩) rfl rfl (FF_txt hpn) dX4_cut_106 (rest := []) (Nat.le_of_ble_eq_true rfl) rfl ⟨Nat.le_of_ble_eq_true rfl, Nat.le_of_ble_eq_true rfl⟩) (fun x' hx' => ?_)
              subst hx'
              refine v_iinc C dX4_cut_109 (j := 1) (v := _ + 1) rfl rfl (by decide) (lv' := [(1, _), (2, _), (0, _)]) rfl ?_
              refine v_goto C 47 dX4_cut_112 (by decide) ?_
              rw [nI_1]
              refine v_sub [0, 2] rfl ?_
              have hpl := hlen (n - 1)
              unfold cutG at hcg
              rw [if_neg hw] at hcg
              refine ih (r.length - (j + 1)) (by omega) (j + 1) n _ (va_up P (n - 1) (P (n - 1) ++ [r.getD j 0])) (by omega) hn2 hn3 ?_ hcg (fun q => ?_) rfl
              · have e5 : put60 (P (n - 1)) (r.getD j 0) = P (n - 1) ++ [r.getD j 0] := by unfold put60; rw [if_pos (by omega)]
                rw [e5]
                exact hs.up hD (by omega) _
              · by_cases hq : q = n - 1
                · rw [hq, va_up_same]; simp only [List.length_append, List.length_singleton]; omega
                · rw [va_up_other _ _ _ hq]; have := hlen q; omega
            · skip
              refine v_istore_n C dX4_cut_66 rfl (by decide) (lv' := [(2, _), (1, _), (0, _)]) rfl ?_
              refine v_iload_n C dX4_cut_67 (j := 0) rfl rfl ?_
              refine v_aload_n C dX4_cut_68 (j := 2) rfl rfl ?_
              refine v_get C (T := TX4) (ci := 4) (j := 2) dX4_cut_69 wiX4_cut_X4 rfl (by decide) wfX4_cut_22 (fun _ h => h) (FF_get hpg3 rfl) ?_
              refine v_icmp_ne C 97 dX4_cut_72 (by decide) (fun c5 => ?_) (fun c5 => ?_)
              · skip
                exact K (fun z => c5 z.1)
              · skip
                refine v_aload_n C dX4_cut_75 (j := 2) rfl rfl ?_
                refine v_get C (T := TX4) (ci := 4) (j := 3) dX4_cut_76 wiX4_cut_X4 rfl (by decide) wfX4_cut_34 (fun _ h => h) (FF_get hpg3 rfl) ?_
                refine v_bipush C dX4_cut_79 (v := 12) (by decide) ?_
                refine v_icmp_ge C 97 dX4_cut_81 (by decide) (fun c6 => ?_) (fun c6 => ?_)
                · skip
                  exact K (fun z => by have := le_of (a := 12) c6 (by decide) (by omega); omega)
                · skip
                  have c7 := lt_ofn (a := 12) c6 (by decide) (by omega)
                  unfold cutG at hcg
                  rw [if_pos ⟨c5, c7⟩] at hcg
                  refine v_aload_n C dX4_cut_84 (j := 2) rfl rfl ?_
                  refine v_dup C dX4_cut_85 rfl ?_
                  refine v_get C (T := TX4) (ci := 4) (j := 3) dX4_cut_86 wiX4_cut_X4 rfl (by decide) wfX4_cut_34 (fun _ h => h) (FF_get hpg3 rfl) ?_
                  refine v_iconst C dX4_cut_89 (v := 1) (by decide) ?_
                  refine v_iadd C dX4_cut_90 ?_
                  rw [nI_1]
                  refine v_put C (T := TX4) (ci := 4) (j := 3) (ty := .int) dX4_cut_91 wiX4_cut_X4 tyX4 tyX4_ok nmX4 rfl (by decide) wfX4_cut_34 (fun _ h => h) rfl rfl (rfl) (rfl) (FF_put hpg3 (Nat.le_of_ble_eq_true rfl)) ?_
                  rw [up_up]
                  refine v_goto C 109 dX4_cut_94 (by decide) ?_
                  refine v_iinc C dX4_cut_109 (j := 1) (v := _ + 1) rfl rfl (by decide) (lv' := [(1, _), (2, _), (0, _)]) rfl ?_
                  refine v_goto C 47 dX4_cut_112 (by decide) ?_
                  rw [nI_1]
                  refine v_sub [0, 2] rfl ?_
                  exact ih (r.length - (j + 1)) (by omega) (j + 1) (n + 1) T2 P (by omega) (by omega) (fun _ => by omega) hs hcg (fun q => Nat.le_trans (hlen q) (Nat.le_succ _)) rfl
      · skip
        refine v_aload_n C dX4_cut_26 (j := 1) rfl rfl ?_
        refine v_aload_n C dX4_cut_27 (j := 1) rfl rfl ?_
        refine v_get C (T := TX4) (ci := 4) (j := 0) dX4_cut_28 wiX4_cut_X4 rfl (by decide) wfX4_cut_12 (fun _ h => h) (FF_get hpg rfl) ?_
        refine v_getN C (T := TX10) (ci := 10) (j := 1) dX4_cut_31 wiX4_cut_X10 rfl (by decide) (v_nw C 37 rfl) (fun _ h => h) (FF_len hW1) ?_
        refine v_if_le C 41 dX4_cut_34 (by decide) (fun c3 => ?_) (fun c3 => ?_)
        · skip
          refine v_iconst C dX4_cut_41 (v := 0) (by decide) ?_
          exact K _ (by
            cases r with
            | nil => rfl
            | cons a q => exact absurd (nI_lt (a := 0) (b := (a :: q).length) (Nat.succ_pos _) (by omega)) (Int32.not_lt.mpr c3))
        · skip
          refine v_iconst C dX4_cut_37 (v := 1) (by decide) ?_
          refine v_goto C 42 dX4_cut_38 (by decide) ?_
          exact K _ (by
            cases r with
            | nil => exact absurd (Int32.le_refl _) c3
            | cons a q => rfl)
    · skip
      have c2 : i < 12 := lt_ofn (b := i) c1 (by decide) (by omega)
      obtain ⟨s9, hs9⟩ := h2 i c2
      refine v_aload_n C dX4_cut_11 (j := 1) rfl rfl ?_
      refine v_get C (T := TX4) (ci := 4) (j := 1) dX4_cut_12 wiX4_cut_X4 rfl (by decide) wfX4_cut_18 (fun _ h => h) (FF_get hpg rfl) ?_
      refine v_iload_n C dX4_cut_15 (j := 0) rfl rfl ?_
      refine v_aald C dX4_cut_16 4 ht4 (FF_arr hpa) (vp_in_nI c2 (by decide)) (w := some (pc i)) (by rw [nI_clamp (by omega)]; exact hpf _ c2) ?_
      refine v_eq (w := .ref (pc i)) rfl ?_
      refine v_cv (v_runV C (k_clear hs9) (cwV 0 C.1.2.2.2.2 gX4_cut_X10_clear rfl rfl rfl (by decide +kernel) ⟨Nat.le_of_ble_eq_true rfl, Nat.le_of_ble_eq_true rfl⟩) rfl rfl (FF_txt hs9) dX4_cut_17 (rest := []) (Nat.le_of_ble_eq_true rfl) rfl ⟨Nat.le_of_ble_eq_true rfl, Nat.le_of_ble_eq_true rfl⟩) (fun x' hx' => ?_)
      subst hx'
      refine v_iinc C dX4_cut_20 (j := 0) (v := _ + 1) rfl rfl (by decide) (lv' := [(1, _), (0, _)]) rfl ?_
      refine v_goto C 2 dX4_cut_23 (by decide) ?_
      rw [nI_1]
      exact ih (12 - (i + 1)) (by omega) (i + 1) _ (by omega) (fun j hj => by
        by_cases hij : j = i
        · rw [hij, va_up_same]
        · rw [va_up_other _ _ _ (fun z => hij (hD.2 j i (by omega) c2 z))]; exact h1 j (by omega)) (fun j hj => by
        by_cases hij : j = i
        · rw [hij, va_up_same]; exact ⟨_, rfl⟩
        · rw [va_up_other _ _ _ (fun z => hij (hD.2 j i hj c2 z))]; exact h2 j hj) (fun q hq => by rw [va_up_other _ _ _ (hq i c2)]; exact h3 q hq) rfl
end PG
