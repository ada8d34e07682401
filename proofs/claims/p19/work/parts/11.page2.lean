/-! ===== Page: set, load ===== -/
theorem wfX4_set_34 : Cond.fieldLink RX4 34 "FieldScribe$Page" (TX4 3).2.1 (TX4 3).2.2.1 ∈ wsX4_set := by decide +kernel
theorem wiX4_set_X4 : ∀ w ∈ u_ws RX4 TX4 5, w ∈ wsX4_set := by decide +kernel
theorem wwX4_set_mm38 : Cond.methodLink RX4 38 Lib.Math.max.name ∈ wsX4_set := by decide +kernel
theorem wwX4_set_msmax : Cond.static Lib.Math.max.name ∈ wsX4_set := by decide +kernel
theorem wwX4_set_mi : Cond.initialized "java/lang/Math" ∈ wsX4_set := by decide +kernel
theorem wwX4_set_mcmax : Cond.code Lib.Math.max.name Lib.Math.max.code 2 (some .int) ∈ wsX4_set := by decide +kernel
theorem wfX4_load_71 : Cond.fieldLink RX4 71 "FieldScribe$Page" (TX4 4).2.1 (TX4 4).2.2.1 ∈ wsX4_load := by decide +kernel
theorem wiX4_load_X4 : ∀ w ∈ u_ws RX4 TX4 5, w ∈ wsX4_load := by decide +kernel
theorem wfX4_load_34 : Cond.fieldLink RX4 34 "FieldScribe$Page" (TX4 3).2.1 (TX4 3).2.2.1 ∈ wsX4_load := by decide +kernel
theorem joinG_congr {sep : Int32} {F G : Nat → List Int32} {m : Nat} (h : ∀ j, 1 ≤ j → j ≤ m → F j = G j) : joinG sep F m = joinG sep G m := by
  induction m with
  | zero => rfl
  | succ m ih =>
    unfold joinG
    rw [ih (fun j h1 h2 => h j h1 (by omega)), h (m + 1) (by omega) (Nat.le_refl _)]
theorem fld_s (sep : Int32) (r : List Int32) (j : Nat) : fld sep r (j + 1) = (cutR sep r).2 j := by
  unfold fld
  rw [if_neg (Nat.succ_ne_zero j), Nat.add_sub_cancel]
/-- the page's texts: the record and its fields -/
def pgT (T : Nat → Option (List Int32)) (wh : Nat) (pc : Nat → Nat) (sep : Int32) (r : List Int32) : Prop := T wh = some r ∧ ∀ j, j < 12 → T (pc j) = some (fld sep r (j + 1))
def othP (T T' : Nat → Option (List Int32)) (wh : Nat) (pc : Nat → Nat) : Prop := ∀ q, q ≠ wh → (∀ j, j < 12 → q ≠ pc j) → T' q = T q
theorem nI_max (a b : Nat) (ha : a < 2 ^ 31) (hb : b < 2 ^ 31) : (if nI a < nI b then nI b else nI a) = nI (max a b) := by
  rcases Nat.lt_or_ge a b with h | h
  · rw [if_pos (nI_lt h hb), Nat.max_eq_right (by omega)]
  · rw [if_neg (nI_nlt h ha), Nat.max_eq_left h]
def okOp (x : Int32) : Prop := (0 ≤ x ∧ x ≤ 9999) ∨ (-13 ≤ x ∧ x ≤ -1) ∨ x = -20 ∨ x = -21
/-- what an operand says -/
def opT (sep : Int32) (r : List Int32) (num : Int32) (x : Int32) : List Int32 := if x < 0 then (if x = -20 then dec (nI (nfd sep r)) else if x = -21 then dec num else fld sep r (-1 - x).toNatClampNeg) else dec x
theorem op_field {x : Int32} (h1 : -13 ≤ x) (h2 : x ≤ -1) : ∃ k, k ≤ 12 ∧ -1 - x = nI k := by
  have a1 := Int32.le_iff_toInt_le.mp h1
  have a2 := Int32.le_iff_toInt_le.mp h2
  rw [show (-13 : Int32).toInt = -13 from rfl] at a1
  rw [show (-1 : Int32).toInt = -1 from rfl] at a2
  refine ⟨(-1 - x.toInt).toNat, by omega, ?_⟩
  apply Int32.toInt_inj.mp
  rw [nI_toInt (by omega), Int32.toInt_sub, show (-1 : Int32).toInt = -1 from rfl, Int.bmod_eq_of_le (by omega) (by omega)]
  omega
section PS
variable {l : Launch} {D : va_G} {tys : List (ClassId × FieldType)} {z0 : Nat} {A : Nat → Prop} {cC cT : ClassId} {f : Nat → Option va_E} {T : Nat → Option (List Int32)} {pg wh pa t : Nat} {pc : Nat → Nat} {sep num : Int32} {r v : List Int32}
set_option maxRecDepth 100000 in
set_option maxHeartbeats 4000000 in
theorem k_pset (ht : tys[0]? = some (cC, .char)) (ht4 : tys[4]? = some (cT, .object RX10)) (hO : pgO f cT pg wh pa pc sep (nI (nfd sep r)) num) (hD : pgD wh pc) (hsep : ch sep) (hT : pgT T wh pc sep r) {k : Nat} (hk : k ≤ 12) (ht0 : T t = some v) (htw : t ≠ wh) (htp : ∀ j, j < 12 → t ≠ pc j) :
    ct D tys z0 A (picF D cC A) l yX4_set wsX4_set (rmL 3 66) [.ref pg, .int (nI k), .ref t] (f, T) (qV (picF D cC A) A (fun x => ∃ T', x = (va_up f pg (pgE wh pa sep (nI (nfd sep (setR sep r k v))) num), T') ∧ pgT T' wh pc sep (setR sep r k v) ∧ othP T T' wh pc)) := by
  refine ct_of RX4 (by decide +kernel) rfl rfl (Nat.le_of_ble_eq_true rfl) ?_
  intro p e s m below meth c C hr hm
  refine v_lv (lv' := [(0, _), (1, _), (2, _)]) rfl ?_
  have hO2 := hO
  obtain ⟨hpg, pf, hpa, hpf⟩ := hO2
  obtain ⟨hW, hP⟩ := hT
  refine v_aload_n C dX4_set_0 (j := 0) rfl rfl ?_
  refine v_iload_n C dX4_set_1 (j := 1) rfl rfl ?_
  refine v_cr (v_runV C (k_pget ht4 hO hk) (cwV 1 C.1.2.2.2.2 gX4_set_X4_get rfl rfl rfl (by decide +kernel) ⟨Nat.le_of_ble_eq_true rfl, Nat.le_of_ble_eq_true rfl⟩) rfl rfl ((FF_get hpg (k := 0) rfl).gC) dX4_set_2 (rest := []) (Nat.le_of_ble_eq_true rfl) rfl ⟨Nat.le_of_ble_eq_true rfl, Nat.le_of_ble_eq_true rfl⟩) (fun r' x' hx' => ?_)
  obtain ⟨rfl, hr3⟩ := hx'
  by_cases hk0 : k = 0
  · skip
    rw [if_pos hk0] at hr3
    subst hr3
    refine v_aload_n C dX4_set_5 (j := 2) rfl rfl ?_
    refine v_cv (v_runV C (k_copy ht hW ht0 htw) (cwV 1 C.1.2.2.2.2 gX4_set_X10_copy rfl rfl rfl (by decide +kernel) ⟨Nat.le_of_ble_eq_true rfl, Nat.le_of_ble_eq_true rfl⟩) rfl rfl (FF_txt hW) dX4_set_6 (rest := []) (Nat.le_of_ble_eq_true rfl) rfl ⟨Nat.le_of_ble_eq_true rfl, Nat.le_of_ble_eq_true rfl⟩) (fun x' hx' => ?_)
    subst hx'
    refine v_iload_n C dX4_set_9 (j := 1) rfl rfl ?_
    refine v_if_le C 25 dX4_set_10 (by decide) (fun c1 => ?_) (fun c1 => absurd c1 (fun z => z (by rw [hk0]; exact Int32.le_refl _)))
    refine v_aload_n C dX4_set_25 (j := 0) rfl rfl ?_
    refine v_cv (v_runV C (k_cut ht ht4 hO hD (r := v) (by rw [va_up_same]) (fun j hj => ⟨_, by rw [va_up_other _ _ _ (hD.1 j hj)]; exact hP j hj⟩)) (cwV 0 C.1.2.2.2.2 gX4_set_X4_cut rfl rfl rfl (by decide +kernel) ⟨Nat.le_of_ble_eq_true rfl, Nat.le_of_ble_eq_true rfl⟩) rfl rfl ((FF_get hpg (k := 0) rfl).gC) dX4_set_26 (rest := []) (Nat.le_of_ble_eq_true rfl) rfl ⟨Nat.le_of_ble_eq_true rfl, Nat.le_of_ble_eq_true rfl⟩) (fun x' hx' => ?_)
    obtain ⟨T', rfl, h1, h2⟩ := hx'
    have e1 : setR sep r k v = v := by unfold setR; rw [if_pos hk0]
    exact v_return C dX4_set_29 hr (Nat.le_of_ble_eq_true rfl) (Nat.le_of_ble_eq_true rfl) (⟨T', by rw [e1], by rw [e1]; exact ⟨by rw [h2 _ (fun j hj z => hD.1 j hj z.symm), va_up_same], fun j hj => by rw [fld_s]; exact h1 j hj⟩, fun q hq1 hq2 => by rw [h2 q hq2, va_up_other _ _ _ hq1]⟩)
  · skip
    rw [if_neg hk0] at hr3
    subst hr3
    refine v_aload_n C dX4_set_5 (j := 2) rfl rfl ?_
    refine v_cv (v_runV C (k_copy ht (hP (k - 1) (by omega)) ht0 (htp _ (by omega))) (cwV 1 C.1.2.2.2.2 gX4_set_X10_copy rfl rfl rfl (by decide +kernel) ⟨Nat.le_of_ble_eq_true rfl, Nat.le_of_ble_eq_true rfl⟩) rfl rfl (FF_txt (hP (k - 1) (by omega))) dX4_set_6 (rest := []) (Nat.le_of_ble_eq_true rfl) rfl ⟨Nat.le_of_ble_eq_true rfl, Nat.le_of_ble_eq_true rfl⟩) (fun x' hx' => ?_)
    subst hx'
    refine v_iload_n C dX4_set_9 (j := 1) rfl rfl ?_
    refine v_if_le C 25 dX4_set_10 (by decide) (fun c1 => absurd c1 (by intro; have := le_of (b := 0) c1 (by omega) (by decide); omega)) (fun c1 => ?_)
    refine v_aload_n C dX4_set_13 (j := 0) rfl rfl ?_
    refine v_aload_n C dX4_set_14 (j := 0) rfl rfl ?_
    refine v_get C (T := TX4) (ci := 4) (j := 3) dX4_set_15 wiX4_set_X4 rfl (by decide) wfX4_set_34 (fun _ h => h) (FF_get hpg rfl) ?_
    refine v_iload_n C dX4_set_18 (j := 1) rfl rfl ?_
    refine v_mmax C dX4_set_19 wwX4_set_mm38 wwX4_set_msmax wwX4_set_mi wwX4_set_mcmax (Nat.le_of_ble_eq_true rfl) (Nat.le_of_ble_eq_true rfl) (Nat.le_of_ble_eq_true rfl) (Nat.le_of_ble_eq_true rfl) ?_
    rw [nI_max _ _ (by have := nfd_le sep r; omega) (by omega)]
    obtain ⟨P, hPd⟩ : ∃ P : Nat → List Int32, P = fun j => if j + 1 = k then v else fld sep r (j + 1) := ⟨_, rfl⟩
    have hP1 : ∀ j, j < 12 → va_up T (pc (k - 1)) (some v) (pc j) = some (P j) := fun j hj => by
      rw [hPd]
      by_cases hj2 : j + 1 = k
      · simp only [if_pos hj2]
        rw [show k - 1 = j by omega, va_up_same]
      · simp only [if_neg hj2]
        rw [va_up_other _ _ _ (fun z => hj2 (by have := hD.2 j (k - 1) hj (by omega) z; omega))]
        exact hP j hj
    have e1 : joinG sep (fun j => P (j - 1)) (max (nfd sep r) k) = setR sep r k v := by
      unfold setR
      rw [if_neg hk0]
      refine joinG_congr (fun j h1 h2 => ?_)
      rw [hPd]
      simp only [Nat.sub_add_cancel h1]
      by_cases hj2 : j = k
      · rw [if_pos hj2, hj2, va_up_same]
      · rw [if_neg hj2, va_up_other _ _ _ hj2]
    refine v_cv (v_runV C (k_join ht ht4 hO hD hsep (r0 := r) (by rw [va_up_other _ _ _ (fun z => hD.1 (k - 1) (by omega) z.symm)]; exact hW) hP1 (by have := nfd_le sep r; omega)) (cwV 1 C.1.2.2.2.2 gX4_set_X4_join rfl rfl rfl (by decide +kernel) ⟨Nat.le_of_ble_eq_true rfl, Nat.le_of_ble_eq_true rfl⟩) rfl rfl ((FF_get hpg (k := 0) rfl).gC) dX4_set_22 (rest := []) (Nat.le_of_ble_eq_true rfl) rfl ⟨Nat.le_of_ble_eq_true rfl, Nat.le_of_ble_eq_true rfl⟩) (fun x' hx' => ?_)
    subst hx'
    rw [e1]
    refine v_aload_n C dX4_set_25 (j := 0) rfl rfl ?_
    refine v_cv (v_runV C (k_cut ht ht4 hO hD (r := setR sep r k v) (by rw [va_up_same]) (fun j hj => ⟨_, by rw [va_up_other _ _ _ (hD.1 j hj)]; exact hP1 j hj⟩)) (cwV 0 C.1.2.2.2.2 gX4_set_X4_cut rfl rfl rfl (by decide +kernel) ⟨Nat.le_of_ble_eq_true rfl, Nat.le_of_ble_eq_true rfl⟩) rfl rfl ((FF_get hpg (k := 0) rfl).gC) dX4_set_26 (rest := []) (Nat.le_of_ble_eq_true rfl) rfl ⟨Nat.le_of_ble_eq_true rfl, Nat.le_of_ble_eq_true rfl⟩) (fun x' hx' => ?_)
    obtain ⟨T', rfl, h1, h2⟩ := hx'
    exact v_return C dX4_set_29 hr (Nat.le_of_ble_eq_true rfl) (Nat.le_of_ble_eq_true rfl) (⟨T', rfl, ⟨by rw [h2 _ (fun j hj z => hD.1 j hj z.symm), va_up_same], fun j hj => by rw [fld_s]; exact h1 j hj⟩, fun q hq1 hq2 => by rw [h2 q hq2, va_up_other _ _ _ hq1, va_up_other _ _ _ (hq2 _ (by omega))]⟩)
set_option maxRecDepth 100000 in
set_option maxHeartbeats 4000000 in
theorem k_load (ht : tys[0]? = some (cC, .char)) (ht4 : tys[4]? = some (cT, .object RX10)) (hO : pgO f cT pg wh pa pc sep (nI (nfd sep r)) num) (hT : pgT T wh pc sep r) {x0 : Int32} (hx0 : okOp x0) (ht0 : T t = some v) (htw : wh ≠ t) (htp : ∀ j, j < 12 → pc j ≠ t) :
    ct D tys z0 A (picF D cC A) l yX4_load wsX4_load (rmL 1 25) [.ref pg, .int x0, .ref t] (f, T) (qV (picF D cC A) A (fun x => x = (f, va_up T t (some (opT sep r num x0))))) := by
  refine ct_of RX4 (by decide +kernel) rfl rfl (Nat.le_of_ble_eq_true rfl) ?_
  intro p e s m below meth c C hr hm
  refine v_lv (lv' := [(0, _), (1, _), (2, _)]) rfl ?_
  have hO2 := hO
  obtain ⟨hpg, pf, hpa, hpf⟩ := hO2
  obtain ⟨hW, hP⟩ := hT
  refine v_iload_n C dX4_load_0 (j := 1) rfl rfl ?_
  refine v_if_lt C 12 dX4_load_1 (by decide) (fun c1 => ?_) (fun c1 => ?_)
  · skip
    refine v_iload_n C dX4_load_12 (j := 1) rfl rfl ?_
    refine v_bipush C dX4_load_13 (v := (-20)) (by decide) ?_
    refine v_icmp_ne C 29 dX4_load_15 (by decide) (fun c2 => ?_) (fun c2 => ?_)
    · skip
      refine v_iload_n C dX4_load_29 (j := 1) rfl rfl ?_
      refine v_bipush C dX4_load_30 (v := (-21)) (by decide) ?_
      refine v_icmp_ne C 46 dX4_load_32 (by decide) (fun c3 => ?_) (fun c3 => ?_)
      · skip
        have e1 : opT sep r num x0 = fld sep r (-1 - x0).toNatClampNeg := by unfold opT; rw [if_pos c1, if_neg c2, if_neg c3]
        obtain ⟨k, hk, e2⟩ : ∃ k, k ≤ 12 ∧ -1 - x0 = nI k := by
          rcases hx0 with q | q | q | q
          · exact absurd c1 (Int32.not_lt.mpr q.1)
          · exact op_field q.1 q.2
          · exact absurd q c2
          · exact absurd q c3
        rw [e2, nI_clamp (by omega)] at e1
        refine v_aload_n C dX4_load_46 (j := 2) rfl rfl ?_
        refine v_aload_n C dX4_load_47 (j := 0) rfl rfl ?_
        refine v_iconst C dX4_load_48 (v := (-1)) (by decide) ?_
        refine v_iload_n C dX4_load_49 (j := 1) rfl rfl ?_
        refine v_isub C dX4_load_50 ?_
        rw [e2]
        refine v_cr (v_runV C (k_pget ht4 hO hk) (cwV 1 C.1.2.2.2.2 gX4_load_X4_get rfl rfl rfl (by decide +kernel) ⟨Nat.le_of_ble_eq_true rfl, Nat.le_of_ble_eq_true rfl⟩) rfl rfl ((FF_get hpg (k := 0) rfl).gC) dX4_load_51 (rest := [_]) (Nat.le_of_ble_eq_true rfl) rfl ⟨Nat.le_of_ble_eq_true rfl, Nat.le_of_ble_eq_true rfl⟩) (fun r' x' hx' => ?_)
        obtain ⟨rfl, hr3⟩ := hx'
        by_cases hk0 : k = 0
        · skip
          rw [if_pos hk0] at hr3
          subst hr3
          refine v_cv (v_runV C (k_copy ht ht0 hW htw) (cwV 1 C.1.2.2.2.2 gX4_load_X10_copy rfl rfl rfl (by decide +kernel) ⟨Nat.le_of_ble_eq_true rfl, Nat.le_of_ble_eq_true rfl⟩) rfl rfl (FF_txt ht0) dX4_load_54 (rest := []) (Nat.le_of_ble_eq_true rfl) rfl ⟨Nat.le_of_ble_eq_true rfl, Nat.le_of_ble_eq_true rfl⟩) (fun x' hx' => ?_)
          subst hx'
          exact v_return C dX4_load_57 hr (Nat.le_of_ble_eq_true rfl) (Nat.le_of_ble_eq_true rfl) (by rw [e1, hk0]; unfold fld; rw [if_pos rfl])
        · skip
          rw [if_neg hk0] at hr3
          subst hr3
          refine v_cv (v_runV C (k_copy ht ht0 (hP (k - 1) (by omega)) (htp _ (by omega))) (cwV 1 C.1.2.2.2.2 gX4_load_X10_copy rfl rfl rfl (by decide +kernel) ⟨Nat.le_of_ble_eq_true rfl, Nat.le_of_ble_eq_true rfl⟩) rfl rfl (FF_txt ht0) dX4_load_54 (rest := []) (Nat.le_of_ble_eq_true rfl) rfl ⟨Nat.le_of_ble_eq_true rfl, Nat.le_of_ble_eq_true rfl⟩) (fun x' hx' => ?_)
          subst hx'
          exact v_return C dX4_load_57 hr (Nat.le_of_ble_eq_true rfl) (Nat.le_of_ble_eq_true rfl) (by rw [e1, Nat.sub_add_cancel (by omega)])
      · skip
        refine v_aload_n C dX4_load_35 (j := 2) rfl rfl ?_
        refine v_aload_n C dX4_load_36 (j := 0) rfl rfl ?_
        refine v_get C (T := TX4) (ci := 4) (j := 4) dX4_load_37 wiX4_load_X4 rfl (by decide) wfX4_load_71 (fun _ h => h) (FF_get hpg rfl) ?_
        refine v_cv (v_runV C (k_write ht ht0 num) (cwV 1 C.1.2.2.2.2 gX4_load_X10_write rfl rfl rfl (by decide +kernel) ⟨Nat.le_of_ble_eq_true rfl, Nat.le_of_ble_eq_true rfl⟩) rfl rfl (FF_txt ht0) dX4_load_40 (rest := []) (Nat.le_of_ble_eq_true rfl) rfl ⟨Nat.le_of_ble_eq_true rfl, Nat.le_of_ble_eq_true rfl⟩) (fun x' hx' => ?_)
        subst hx'
        refine v_goto C 57 dX4_load_43 (by decide) ?_
        exact v_return C dX4_load_57 hr (Nat.le_of_ble_eq_true rfl) (Nat.le_of_ble_eq_true rfl) (by unfold opT; rw [if_pos c1, if_neg c2, if_pos c3])
    · skip
      refine v_aload_n C dX4_load_18 (j := 2) rfl rfl ?_
      refine v_aload_n C dX4_load_19 (j := 0) rfl rfl ?_
      refine v_get C (T := TX4) (ci := 4) (j := 3) dX4_load_20 wiX4_load_X4 rfl (by decide) wfX4_load_34 (fun _ h => h) (FF_get hpg rfl) ?_
      refine v_cv (v_runV C (k_write ht ht0 (nI (nfd sep r))) (cwV 1 C.1.2.2.2.2 gX4_load_X10_write rfl rfl rfl (by decide +kernel) ⟨Nat.le_of_ble_eq_true rfl, Nat.le_of_ble_eq_true rfl⟩) rfl rfl (FF_txt ht0) dX4_load_23 (rest := []) (Nat.le_of_ble_eq_true rfl) rfl ⟨Nat.le_of_ble_eq_true rfl, Nat.le_of_ble_eq_true rfl⟩) (fun x' hx' => ?_)
      subst hx'
      refine v_goto C 57 dX4_load_26 (by decide) ?_
      exact v_return C dX4_load_57 hr (Nat.le_of_ble_eq_true rfl) (Nat.le_of_ble_eq_true rfl) (by unfold opT; rw [if_pos c1, if_pos c2])
  · skip
    refine v_aload_n C dX4_load_4 (j := 2) rfl rfl ?_
    refine v_iload_n C dX4_load_5 (j := 1) rfl rfl ?_
    refine v_cv (v_runV C (k_write ht ht0 x0) (cwV 1 C.1.2.2.2.2 gX4_load_X10_write rfl rfl rfl (by decide +kernel) ⟨Nat.le_of_ble_eq_true rfl, Nat.le_of_ble_eq_true rfl⟩) rfl rfl (FF_txt ht0) dX4_load_6 (rest := []) (Nat.le_of_ble_eq_true rfl) rfl ⟨Nat.le_of_ble_eq_true rfl, Nat.le_of_ble_eq_true rfl⟩) (fun x' hx' => ?_)
    subst hx'
    refine v_goto C 57 dX4_load_9 (by decide) ?_
    exact v_return C dX4_load_57 hr (Nat.le_of_ble_eq_true rfl) (Nat.le_of_ble_eq_true rfl) (by unfold opT; rw [if_neg c1])
end PS
