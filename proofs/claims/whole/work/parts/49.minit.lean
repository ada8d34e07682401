/-! ===== new FieldScribeModel() ===== -/
theorem wwX12_init_oi1 : Cond.methodLink RX12 1 Lib.objectInit ∈ wsX12_init := by decide +kernel
theorem wwX12_init_oim : Cond.instanceMethod Lib.objectInit ∈ wsX12_init := by decide +kernel
theorem wwX12_init_oic : Cond.code Lib.objectInit ⟨#[0xb1]⟩ 1 none ∈ wsX12_init := by decide +kernel
theorem wfX12_init_7 : Cond.fieldLink RX12 7 "FieldScribeModel" (TX12 0).2.1 (TX12 0).2.2.1 ∈ wsX12_init := by decide +kernel
theorem wiX12_init_X12 : ∀ w ∈ u_ws RX12 TX12 34, w ∈ wsX12_init := by decide +kernel
theorem wwX12_init_acint : Cond.arrayClass (newarray.typeOf .int) ∈ wsX12_init := by decide +kernel
theorem wfX12_init_13 : Cond.fieldLink RX12 13 "FieldScribeModel" (TX12 1).2.1 (TX12 1).2.2.1 ∈ wsX12_init := by decide +kernel
theorem wfX12_init_17 : Cond.fieldLink RX12 17 "FieldScribeModel" (TX12 4).2.1 (TX12 4).2.2.1 ∈ wsX12_init := by decide +kernel
theorem wfX12_init_20 : Cond.fieldLink RX12 20 "FieldScribeModel" (TX12 5).2.1 (TX12 5).2.2.1 ∈ wsX12_init := by decide +kernel
theorem wfX12_init_23 : Cond.fieldLink RX12 23 "FieldScribeModel" (TX12 6).2.1 (TX12 6).2.2.1 ∈ wsX12_init := by decide +kernel
theorem wfX12_init_26 : Cond.fieldLink RX12 26 "FieldScribeModel" (TX12 11).2.1 (TX12 11).2.2.1 ∈ wsX12_init := by decide +kernel
theorem wfX12_init_29 : Cond.fieldLink RX12 29 "FieldScribeModel" (TX12 12).2.1 (TX12 12).2.2.1 ∈ wsX12_init := by decide +kernel
theorem wfX12_init_32 : Cond.fieldLink RX12 32 "FieldScribeModel" (TX12 13).2.1 (TX12 13).2.2.1 ∈ wsX12_init := by decide +kernel
theorem wwX12_init_acboolean : Cond.arrayClass (newarray.typeOf .boolean) ∈ wsX12_init := by decide +kernel
theorem wfX12_init_35 : Cond.fieldLink RX12 35 "FieldScribeModel" (TX12 14).2.1 (TX12 14).2.2.1 ∈ wsX12_init := by decide +kernel
theorem wfX12_init_39 : Cond.fieldLink RX12 39 "FieldScribeModel" (TX12 15).2.1 (TX12 15).2.2.1 ∈ wsX12_init := by decide +kernel
theorem wfX12_init_42 : Cond.fieldLink RX12 42 "FieldScribeModel" (TX12 16).2.1 (TX12 16).2.2.1 ∈ wsX12_init := by decide +kernel
theorem wfX12_init_45 : Cond.fieldLink RX12 45 "FieldScribeModel" (TX12 17).2.1 (TX12 17).2.2.1 ∈ wsX12_init := by decide +kernel
theorem wfX12_init_48 : Cond.fieldLink RX12 48 "FieldScribeModel" (TX12 18).2.1 (TX12 18).2.2.1 ∈ wsX12_init := by decide +kernel
theorem wfX12_init_51 : Cond.fieldLink RX12 51 "FieldScribeModel" (TX12 19).2.1 (TX12 19).2.2.1 ∈ wsX12_init := by decide +kernel
theorem wfX12_init_54 : Cond.fieldLink RX12 54 "FieldScribeModel" (TX12 20).2.1 (TX12 20).2.2.1 ∈ wsX12_init := by decide +kernel
theorem wfX12_init_57 : Cond.fieldLink RX12 57 "FieldScribeModel" (TX12 22).2.1 (TX12 22).2.2.1 ∈ wsX12_init := by decide +kernel
theorem wfX12_init_60 : Cond.fieldLink RX12 60 "FieldScribeModel" (TX12 23).2.1 (TX12 23).2.2.1 ∈ wsX12_init := by decide +kernel
theorem wfX12_init_63 : Cond.fieldLink RX12 63 "FieldScribeModel" (TX12 24).2.1 (TX12 24).2.2.1 ∈ wsX12_init := by decide +kernel
theorem wfX12_init_66 : Cond.fieldLink RX12 66 "FieldScribeModel" (TX12 26).2.1 (TX12 26).2.2.1 ∈ wsX12_init := by decide +kernel
theorem wfX12_init_69 : Cond.fieldLink RX12 69 "FieldScribeModel" (TX12 27).2.1 (TX12 27).2.2.1 ∈ wsX12_init := by decide +kernel
theorem wfX12_init_72 : Cond.fieldLink RX12 72 "FieldScribeModel" (TX12 28).2.1 (TX12 28).2.2.1 ∈ wsX12_init := by decide +kernel
theorem wfX12_init_75 : Cond.fieldLink RX12 75 "FieldScribeModel" (TX12 30).2.1 (TX12 30).2.2.1 ∈ wsX12_init := by decide +kernel
theorem wfX12_init_78 : Cond.fieldLink RX12 78 "FieldScribeModel" (TX12 32).2.1 (TX12 32).2.2.1 ∈ wsX12_init := by decide +kernel
def jxL : List Nat := [1, 4, 5, 6, 11, 12, 13, 14, 15, 16, 17, 18, 19, 20, 22, 23, 24, 26, 27, 28, 30, 32]
def jx (k : Nat) : Nat := jxL.getD k 0
def ixL : List Nat := [0, 0, 0, 0, 1, 2, 3, 0, 0, 0, 0, 4, 5, 6, 7, 8, 9, 10, 11, 12, 13, 0, 14, 15, 16, 0, 17, 18, 19, 0, 20, 0, 21, 0]
def ix (j : Nat) : Nat := ixL.getD j 0
theorem jx_ok : ∀ k, k < 22 → isArr (jx k) = true ∧ ix (jx k) = k ∧ jx k < 34 := by decide
theorem ix_ok0 : ∀ j, j < 34 → isArr j = true → jx (ix j) = j ∧ ix j < 22 := by decide
theorem isArr_lt {j : Nat} (h : isArr j = true) : j < 34 := by
  unfold isArr at h
  simp only [Bool.or_eq_true, Bool.and_eq_true, decide_eq_true_eq, beq_iff_eq] at h
  omega
theorem ix_ok {j : Nat} (h : isArr j = true) : jx (ix j) = j ∧ ix j < 22 := ix_ok0 j (isArr_lt h) h
def I0 (j : Nat) : Int32 := if j = 0 then 32 else 0
/-- the object's fields when the arrays qs are made -/
def vM (qs : List Nat) : List Value := (List.range 34).map (fun j => if isArr j = true then (if ix j < qs.length then .ref (qs.getD (ix j) 0) else .null) else .int (I0 j))
def eM (cI cZ : ClassId) (j : Nat) : va_E := .inl (acl cI cZ j, alen j, .inl (fun _ => 0))
theorem getD_app {qs : List Nat} {q k : Nat} (h : k < qs.length) : (qs ++ [q]).getD k 0 = qs.getD k 0 := by
  simp only [List.getD_eq_getElem?_getD]
  rw [List.getElem?_append_left h]
theorem getD_last {qs : List Nat} {q : Nat} : (qs ++ [q]).getD qs.length 0 = q := by simp [List.getD_eq_getElem?_getD]
theorem vM_set {qs : List Nat} {q : Nat} (hn : qs.length < 22) : (vM qs).set (jx qs.length) (.ref q) = vM (qs ++ [q]) := by
  obtain ⟨h1, h2, h3⟩ := jx_ok _ hn
  apply List.ext_getElem?
  intro i
  by_cases hl : i < 34
  · by_cases hi : i = jx qs.length
    · subst hi
      rw [List.getElem?_set_self (by simp [vM]; exact h3)]
      simp only [vM, List.getElem?_map, List.getElem?_range h3, Option.map_some]
      rw [if_pos h1, h2, if_pos (by simp), getD_last]
    · rw [List.getElem?_set_ne (Ne.symm hi)]
      simp only [vM, List.getElem?_map, List.getElem?_range hl, Option.map_some]
      by_cases ha : isArr i = true
      · rw [if_pos ha, if_pos ha]
        obtain ⟨g1, g2⟩ := ix_ok ha
        by_cases hx : ix i < qs.length
        · rw [if_pos hx, if_pos (by simp; omega), getD_app hx]
        · have hne : ix i ≠ qs.length := fun z => hi (by rw [← z, g1])
          rw [if_neg hx, if_neg (by simp; omega)]
      · rw [if_neg ha, if_neg ha]
  · rw [List.getElem?_eq_none (by simp [vM]; omega), List.getElem?_eq_none (by simp [vM]; omega)]
/-- the object md half made: the arrays qs stand, in their order -/
def sM (cI cZ : ClassId) (f0 f : Nat → Option va_E) (md : Nat) (qs : List Nat) : Prop :=
  f md = some (.inr (12, vM qs)) ∧ (∀ k, k < qs.length → f (qs.getD k 0) = some (eM cI cZ (jx k)) ∧ f0 (qs.getD k 0) = none ∧ qs.getD k 0 ≠ md) ∧ (∀ i j, i < qs.length → j < qs.length → qs.getD i 0 = qs.getD j 0 → i = j) ∧ ∀ p, f0 p ≠ none → p ≠ md → f p = f0 p
theorem sM.step {cI cZ : ClassId} {f0 f : Nat → Option va_E} {md : Nat} {qs : List Nat} (h : sM cI cZ f0 f md qs) {q : Nat} (hq : f q = none) {V : List Value} (hV : V = vM (qs ++ [q])) {e : va_E} (he : e = eM cI cZ (jx qs.length)) : sM cI cZ f0 (va_up (va_up f q (some e)) md (some (.inr (12, V)))) md (qs ++ [q]) := by
  obtain ⟨h1, h2, h3, h4⟩ := h
  have qm : q ≠ md := fun z => by rw [z, h1] at hq; cases hq
  have q0 : f0 q = none := by
    cases hz : f0 q with
    | none => rfl
    | some e9 =>
      have h9 := h4 q (by rw [hz]; intro z; cases z) qm
      rw [hq, hz] at h9
      cases h9
  have qn : ∀ k, k < qs.length → qs.getD k 0 ≠ q := fun k hk z => by
    have h9 := (h2 k hk).1
    rw [z, hq] at h9
    cases h9
  refine ⟨by rw [va_up_same, hV], fun k hk => ?_, fun i j hi hj hij => ?_, fun p p1 p2 => ?_⟩
  · rw [List.length_append, List.length_singleton] at hk
    by_cases hkl : k = qs.length
    · subst hkl
      rw [getD_last]
      exact ⟨by rw [va_up_other _ _ _ qm, va_up_same, he], q0, qm⟩
    · have hk2 : k < qs.length := by omega
      rw [getD_app hk2]
      obtain ⟨g1, g2, g3⟩ := h2 k hk2
      exact ⟨by rw [va_up_other _ _ _ g3, va_up_other _ _ _ (qn k hk2)]; exact g1, g2, g3⟩
  · rw [List.length_append, List.length_singleton] at hi hj
    by_cases hil : i = qs.length
    · by_cases hjl : j = qs.length
      · omega
      · rw [hil, getD_last, getD_app (by omega)] at hij
        exact absurd hij.symm (qn j (by omega))
    · by_cases hjl : j = qs.length
      · rw [hjl, getD_last, getD_app (by omega)] at hij
        exact absurd hij (qn i (by omega))
      · rw [getD_app (by omega), getD_app (by omega)] at hij
        exact h3 i j (by omega) (by omega) hij
  · have p3 : p ≠ q := fun z => p1 (by rw [z]; exact q0)
    rw [va_up_other _ _ _ p2, va_up_other _ _ _ p3]
    exact h4 p p1 p2
theorem vM_full {qs : List Nat} (hn : qs.length = 22) : vM qs = mdL (fun j => qs.getD (ix j) 0) I0 := by
  unfold vM mdL
  refine List.map_congr_left (fun j hj => ?_)
  by_cases ha : isArr j = true
  · rw [if_pos ha, if_pos ha, if_pos (by rw [hn]; exact (ix_ok ha).2)]
  · rw [if_neg ha, if_neg ha]
/-- the object md is made: its arrays at ad, all else as it was -/
def mdI (cI cZ : ClassId) (f0 f : Nat → Option va_E) (md : Nat) (ad : Nat → Nat) : Prop :=
  f md = some (.inr (12, mdL ad I0)) ∧ (∀ j, isArr j = true → f (ad j) = some (eM cI cZ j) ∧ f0 (ad j) = none ∧ ad j ≠ md) ∧ (∀ i j, isArr i = true → isArr j = true → ad i = ad j → i = j) ∧ ∀ p, f0 p ≠ none → p ≠ md → f p = f0 p
theorem sM.fin {cI cZ : ClassId} {f0 f : Nat → Option va_E} {md : Nat} {qs : List Nat} (h : sM cI cZ f0 f md qs) (hn : qs.length = 22) : mdI cI cZ f0 f md (fun j => qs.getD (ix j) 0) := by
  obtain ⟨h1, h2, h3, h4⟩ := h
  refine ⟨by rw [h1, vM_full hn], fun j hj => ?_, fun i j hi hj hij => ?_, h4⟩
  · have h9 := h2 (ix j) (by rw [hn]; exact (ix_ok hj).2)
    rw [(ix_ok hj).1] at h9
    exact h9
  · have h9 := h3 (ix i) (ix j) (by rw [hn]; exact (ix_ok hi).2) (by rw [hn]; exact (ix_ok hj).2) hij
    rw [← (ix_ok hi).1, ← (ix_ok hj).1, h9]
section NM
variable {l : Launch} {D : va_G} {tys : List (ClassId × FieldType)} {z0 : Nat} {A : Nat → Prop} {cC cI cZ : ClassId} {f : Nat → Option va_E} {T : Nat → Option (List Int32)}
set_option maxRecDepth 100000 in
set_option maxHeartbeats 16000000 in
theorem m_init (ht1 : tys[1]? = some (cI, .int)) (ht2 : tys[2]? = some (cZ, .boolean)) {md : Nat} (h1 : f md = some (.inr (12, (vM []).set 0 (.int 0)))) : ct D tys z0 A (picF D cC A) l yX12_init wsX12_init ({ frames := 1, cells := 22, slots := 4236, locals := 24 } : Room) [.ref md] (f, T) (qV (picF D cC A) A (fun x => ∃ ad f', x = (f', T) ∧ mdI cI cZ f f' md ad)) := by
  refine ct_of RX12 (by decide +kernel) rfl rfl (Nat.le_of_ble_eq_true rfl) ?_
  intro p e s m below meth c C hr hm
  refine v_lv (lv' := [(0, _)]) rfl ?_
  refine v_aload_n C dX12_init_0 (j := 0) rfl rfl ?_
  refine v_objInit C dX12_init_1 wwX12_init_oi1 wwX12_init_oim wwX12_init_oic (Nat.le_of_ble_eq_true rfl) (Nat.le_of_ble_eq_true rfl) ?_
  refine v_aload_n C dX12_init_4 (j := 0) rfl rfl ?_
  refine v_bipush C dX12_init_5 (v := 32) (by decide) ?_
  refine v_put C (T := TX12) (ci := 12) (j := 0) (ty := .int) dX12_init_7 wiX12_init_X12 tyX12 tyX12_ok nmX12 rfl (by decide) wfX12_init_7 (fun _ h => h) rfl rfl (rfl) (rfl) (FF_put h1 (Nat.le_of_ble_eq_true rfl)) ?_
  obtain ⟨f0, hf0⟩ : ∃ f0, f0 = va_up f md (some (.inr (12, ((vM []).set 0 (.int 0)).set 0 (.int 32)))) := ⟨_, rfl⟩
  refine v_x (x' := (f0, T)) (fun H hP => by rw [hf0]; exact hP) ?_
  have s0 : sM cI cZ f f0 md [] := ⟨by rw [hf0, va_up_same]; rfl, fun k hk => absurd hk (Nat.not_lt_zero k), fun i j hi => absurd hi (Nat.not_lt_zero i), fun p p1 p2 => by rw [hf0, va_up_other _ _ _ p2]⟩
  clear hf0
  refine v_aload_n C dX12_init_10 (j := 0) rfl rfl ?_
  refine v_bipush C dX12_init_11 (v := 60) (by decide) ?_
  refine v_newa C (N := 60) (a0 := (60, .inl (fun _ => 0))) (atype := .int) dX12_init_13 wwX12_init_acint 1 ht1 rfl (by first | exact vp_cell_i _ _ _ | rfl) (by decide) (by decide) (Nat.le_of_ble_eq_true rfl) (by first | exact Nat.le_of_ble_eq_true rfl | (dsimp only; omega)) (by first | exact Nat.le_of_ble_eq_true rfl | (dsimp only; omega)) (FF_new _) (fun q1 hq => ?_)
  have hne : md ≠ q1 := fun z => by have h9 := hq.1; rw [← z, s0.1] at h9; cases h9
  refine v_putF C (T := TX12) (ci := 12) (j := 1) (ty := (.array .int)) dX12_init_15 wiX12_init_X12 tyX12 tyX12_ok nmX12 rfl (by decide) wfX12_init_13 (fun _ h => h) rfl hm rfl rfl (rfl) (rfl) (FF_put (by rw [va_up_other _ _ _ hne]; exact s0.1) (Nat.le_of_ble_eq_true rfl)) ?_
  obtain ⟨f1, hf⟩ : ∃ fz, fz = va_up (va_up f0 q1 (some (.inl (cI, 60, .inl (fun _ => 0))))) md (some (.inr (12, (vM []).set 1 (.ref q1)))) := ⟨_, rfl⟩
  refine v_x (x' := (f1, T)) (fun H hP => by rw [hf]; exact hP) ?_
  have s1 : sM cI cZ f f1 md [q1] := by rw [hf]; exact s0.step hq.1 (vM_set (Nat.le_of_ble_eq_true rfl)) rfl
  clear hf hq hne s0
  refine v_aload_n C dX12_init_18 (j := 0) rfl rfl ?_
  refine v_bipush C dX12_init_19 (v := 12) (by decide) ?_
  refine v_newa C (N := 12) (a0 := (12, .inl (fun _ => 0))) (atype := .int) dX12_init_21 wwX12_init_acint 1 ht1 rfl (by first | exact vp_cell_i _ _ _ | rfl) (by decide) (by decide) (Nat.le_of_ble_eq_true rfl) (by first | exact Nat.le_of_ble_eq_true rfl | (dsimp only; omega)) (by first | exact Nat.le_of_ble_eq_true rfl | (dsimp only; omega)) (FF_new _) (fun q2 hq => ?_)
  have hne : md ≠ q2 := fun z => by have h9 := hq.1; rw [← z, s1.1] at h9; cases h9
  refine v_putF C (T := TX12) (ci := 12) (j := 4) (ty := (.array .int)) dX12_init_23 wiX12_init_X12 tyX12 tyX12_ok nmX12 rfl (by decide) wfX12_init_17 (fun _ h => h) rfl hm rfl rfl (rfl) (rfl) (FF_put (by rw [va_up_other _ _ _ hne]; exact s1.1) (Nat.le_of_ble_eq_true rfl)) ?_
  obtain ⟨f2, hf⟩ : ∃ fz, fz = va_up (va_up f1 q2 (some (.inl (cI, 12, .inl (fun _ => 0))))) md (some (.inr (12, (vM [q1]).set 4 (.ref q2)))) := ⟨_, rfl⟩
  refine v_x (x' := (f2, T)) (fun H hP => by rw [hf]; exact hP) ?_
  have s2 : sM cI cZ f f2 md [q1, q2] := by rw [hf]; exact s1.step hq.1 (vM_set (Nat.le_of_ble_eq_true rfl)) rfl
  clear hf hq hne s1
  refine v_aload_n C dX12_init_26 (j := 0) rfl rfl ?_
  refine v_bipush C dX12_init_27 (v := 12) (by decide) ?_
  refine v_newa C (N := 12) (a0 := (12, .inl (fun _ => 0))) (atype := .int) dX12_init_29 wwX12_init_acint 1 ht1 rfl (by first | exact vp_cell_i _ _ _ | rfl) (by decide) (by decide) (Nat.le_of_ble_eq_true rfl) (by first | exact Nat.le_of_ble_eq_true rfl | (dsimp only; omega)) (by first | exact Nat.le_of_ble_eq_true rfl | (dsimp only; omega)) (FF_new _) (fun q3 hq => ?_)
  have hne : md ≠ q3 := fun z => by have h9 := hq.1; rw [← z, s2.1] at h9; cases h9
  refine v_putF C (T := TX12) (ci := 12) (j := 5) (ty := (.array .int)) dX12_init_31 wiX12_init_X12 tyX12 tyX12_ok nmX12 rfl (by decide) wfX12_init_20 (fun _ h => h) rfl hm rfl rfl (rfl) (rfl) (FF_put (by rw [va_up_other _ _ _ hne]; exact s2.1) (Nat.le_of_ble_eq_true rfl)) ?_
  obtain ⟨f3, hf⟩ : ∃ fz, fz = va_up (va_up f2 q3 (some (.inl (cI, 12, .inl (fun _ => 0))))) md (some (.inr (12, (vM [q1, q2]).set 5 (.ref q3)))) := ⟨_, rfl⟩
  refine v_x (x' := (f3, T)) (fun H hP => by rw [hf]; exact hP) ?_
  have s3 : sM cI cZ f f3 md [q1, q2, q3] := by rw [hf]; exact s2.step hq.1 (vM_set (Nat.le_of_ble_eq_true rfl)) rfl
  clear hf hq hne s2
  refine v_aload_n C dX12_init_34 (j := 0) rfl rfl ?_
  refine v_bipush C dX12_init_35 (v := 60) (by decide) ?_
  refine v_newa C (N := 60) (a0 := (60, .inl (fun _ => 0))) (atype := .int) dX12_init_37 wwX12_init_acint 1 ht1 rfl (by first | exact vp_cell_i _ _ _ | rfl) (by decide) (by decide) (Nat.le_of_ble_eq_true rfl) (by first | exact Nat.le_of_ble_eq_true rfl | (dsimp only; omega)) (by first | exact Nat.le_of_ble_eq_true rfl | (dsimp only; omega)) (FF_new _) (fun q4 hq => ?_)
  have hne : md ≠ q4 := fun z => by have h9 := hq.1; rw [← z, s3.1] at h9; cases h9
  refine v_putF C (T := TX12) (ci := 12) (j := 6) (ty := (.array .int)) dX12_init_39 wiX12_init_X12 tyX12 tyX12_ok nmX12 rfl (by decide) wfX12_init_23 (fun _ h => h) rfl hm rfl rfl (rfl) (rfl) (FF_put (by rw [va_up_other _ _ _ hne]; exact s3.1) (Nat.le_of_ble_eq_true rfl)) ?_
  obtain ⟨f4, hf⟩ : ∃ fz, fz = va_up (va_up f3 q4 (some (.inl (cI, 60, .inl (fun _ => 0))))) md (some (.inr (12, (vM [q1, q2, q3]).set 6 (.ref q4)))) := ⟨_, rfl⟩
  refine v_x (x' := (f4, T)) (fun H hP => by rw [hf]; exact hP) ?_
  have s4 : sM cI cZ f f4 md [q1, q2, q3, q4] := by rw [hf]; exact s3.step hq.1 (vM_set (Nat.le_of_ble_eq_true rfl)) rfl
  clear hf hq hne s3
  refine v_aload_n C dX12_init_42 (j := 0) rfl rfl ?_
  refine v_bipush C dX12_init_43 (v := 8) (by decide) ?_
  refine v_newa C (N := 8) (a0 := (8, .inl (fun _ => 0))) (atype := .int) dX12_init_45 wwX12_init_acint 1 ht1 rfl (by first | exact vp_cell_i _ _ _ | rfl) (by decide) (by decide) (Nat.le_of_ble_eq_true rfl) (by first | exact Nat.le_of_ble_eq_true rfl | (dsimp only; omega)) (by first | exact Nat.le_of_ble_eq_true rfl | (dsimp only; omega)) (FF_new _) (fun q5 hq => ?_)
  have hne : md ≠ q5 := fun z => by have h9 := hq.1; rw [← z, s4.1] at h9; cases h9
  refine v_putF C (T := TX12) (ci := 12) (j := 11) (ty := (.array .int)) dX12_init_47 wiX12_init_X12 tyX12 tyX12_ok nmX12 rfl (by decide) wfX12_init_26 (fun _ h => h) rfl hm rfl rfl (rfl) (rfl) (FF_put (by rw [va_up_other _ _ _ hne]; exact s4.1) (Nat.le_of_ble_eq_true rfl)) ?_
  obtain ⟨f5, hf⟩ : ∃ fz, fz = va_up (va_up f4 q5 (some (.inl (cI, 8, .inl (fun _ => 0))))) md (some (.inr (12, (vM [q1, q2, q3, q4]).set 11 (.ref q5)))) := ⟨_, rfl⟩
  refine v_x (x' := (f5, T)) (fun H hP => by rw [hf]; exact hP) ?_
  have s5 : sM cI cZ f f5 md [q1, q2, q3, q4, q5] := by rw [hf]; exact s4.step hq.1 (vM_set (Nat.le_of_ble_eq_true rfl)) rfl
  clear hf hq hne s4
  refine v_aload_n C dX12_init_50 (j := 0) rfl rfl ?_
  refine v_bipush C dX12_init_51 (v := 8) (by decide) ?_
  refine v_newa C (N := 8) (a0 := (8, .inl (fun _ => 0))) (atype := .int) dX12_init_53 wwX12_init_acint 1 ht1 rfl (by first | exact vp_cell_i _ _ _ | rfl) (by decide) (by decide) (Nat.le_of_ble_eq_true rfl) (by first | exact Nat.le_of_ble_eq_true rfl | (dsimp only; omega)) (by first | exact Nat.le_of_ble_eq_true rfl | (dsimp only; omega)) (FF_new _) (fun q6 hq => ?_)
  have hne : md ≠ q6 := fun z => by have h9 := hq.1; rw [← z, s5.1] at h9; cases h9
  refine v_putF C (T := TX12) (ci := 12) (j := 12) (ty := (.array .int)) dX12_init_55 wiX12_init_X12 tyX12 tyX12_ok nmX12 rfl (by decide) wfX12_init_29 (fun _ h => h) rfl hm rfl rfl (rfl) (rfl) (FF_put (by rw [va_up_other _ _ _ hne]; exact s5.1) (Nat.le_of_ble_eq_true rfl)) ?_
  obtain ⟨f6, hf⟩ : ∃ fz, fz = va_up (va_up f5 q6 (some (.inl (cI, 8, .inl (fun _ => 0))))) md (some (.inr (12, (vM [q1, q2, q3, q4, q5]).set 12 (.ref q6)))) := ⟨_, rfl⟩
  refine v_x (x' := (f6, T)) (fun H hP => by rw [hf]; exact hP) ?_
  have s6 : sM cI cZ f f6 md [q1, q2, q3, q4, q5, q6] := by rw [hf]; exact s5.step hq.1 (vM_set (Nat.le_of_ble_eq_true rfl)) rfl
  clear hf hq hne s5
  refine v_aload_n C dX12_init_58 (j := 0) rfl rfl ?_
  refine v_bipush C dX12_init_59 (v := 8) (by decide) ?_
  refine v_newa C (N := 8) (a0 := (8, .inl (fun _ => 0))) (atype := .int) dX12_init_61 wwX12_init_acint 1 ht1 rfl (by first | exact vp_cell_i _ _ _ | rfl) (by decide) (by decide) (Nat.le_of_ble_eq_true rfl) (by first | exact Nat.le_of_ble_eq_true rfl | (dsimp only; omega)) (by first | exact Nat.le_of_ble_eq_true rfl | (dsimp only; omega)) (FF_new _) (fun q7 hq => ?_)
  have hne : md ≠ q7 := fun z => by have h9 := hq.1; rw [← z, s6.1] at h9; cases h9
  refine v_putF C (T := TX12) (ci := 12) (j := 13) (ty := (.array .int)) dX12_init_63 wiX12_init_X12 tyX12 tyX12_ok nmX12 rfl (by decide) wfX12_init_32 (fun _ h => h) rfl hm rfl rfl (rfl) (rfl) (FF_put (by rw [va_up_other _ _ _ hne]; exact s6.1) (Nat.le_of_ble_eq_true rfl)) ?_
  obtain ⟨f7, hf⟩ : ∃ fz, fz = va_up (va_up f6 q7 (some (.inl (cI, 8, .inl (fun _ => 0))))) md (some (.inr (12, (vM [q1, q2, q3, q4, q5, q6]).set 13 (.ref q7)))) := ⟨_, rfl⟩
  refine v_x (x' := (f7, T)) (fun H hP => by rw [hf]; exact hP) ?_
  have s7 : sM cI cZ f f7 md [q1, q2, q3, q4, q5, q6, q7] := by rw [hf]; exact s6.step hq.1 (vM_set (Nat.le_of_ble_eq_true rfl)) rfl
  clear hf hq hne s6
  refine v_aload_n C dX12_init_66 (j := 0) rfl rfl ?_
  refine v_bipush C dX12_init_67 (v := 8) (by decide) ?_
  refine v_newa C (N := 8) (a0 := (8, .inl (fun _ => 0))) (atype := .boolean) dX12_init_69 wwX12_init_acboolean 2 ht2 rfl (by first | exact vp_cell_i _ _ _ | rfl) (by decide) (by decide) (Nat.le_of_ble_eq_true rfl) (by first | exact Nat.le_of_ble_eq_true rfl | (dsimp only; omega)) (by first | exact Nat.le_of_ble_eq_true rfl | (dsimp only; omega)) (FF_new _) (fun q8 hq => ?_)
  have hne : md ≠ q8 := fun z => by have h9 := hq.1; rw [← z, s7.1] at h9; cases h9
  refine v_putF C (T := TX12) (ci := 12) (j := 14) (ty := (.array .boolean)) dX12_init_71 wiX12_init_X12 tyX12 tyX12_ok nmX12 rfl (by decide) wfX12_init_35 (fun _ h => h) rfl hm rfl rfl (rfl) (rfl) (FF_put (by rw [va_up_other _ _ _ hne]; exact s7.1) (Nat.le_of_ble_eq_true rfl)) ?_
  obtain ⟨f8, hf⟩ : ∃ fz, fz = va_up (va_up f7 q8 (some (.inl (cZ, 8, .inl (fun _ => 0))))) md (some (.inr (12, (vM [q1, q2, q3, q4, q5, q6, q7]).set 14 (.ref q8)))) := ⟨_, rfl⟩
  refine v_x (x' := (f8, T)) (fun H hP => by rw [hf]; exact hP) ?_
  have s8 : sM cI cZ f f8 md [q1, q2, q3, q4, q5, q6, q7, q8] := by rw [hf]; exact s7.step hq.1 (vM_set (Nat.le_of_ble_eq_true rfl)) rfl
  clear hf hq hne s7
  refine v_aload_n C dX12_init_74 (j := 0) rfl rfl ?_
  refine v_bipush C dX12_init_75 (v := 8) (by decide) ?_
  refine v_newa C (N := 8) (a0 := (8, .inl (fun _ => 0))) (atype := .int) dX12_init_77 wwX12_init_acint 1 ht1 rfl (by first | exact vp_cell_i _ _ _ | rfl) (by decide) (by decide) (Nat.le_of_ble_eq_true rfl) (by first | exact Nat.le_of_ble_eq_true rfl | (dsimp only; omega)) (by first | exact Nat.le_of_ble_eq_true rfl | (dsimp only; omega)) (FF_new _) (fun q9 hq => ?_)
  have hne : md ≠ q9 := fun z => by have h9 := hq.1; rw [← z, s8.1] at h9; cases h9
  refine v_putF C (T := TX12) (ci := 12) (j := 15) (ty := (.array .int)) dX12_init_79 wiX12_init_X12 tyX12 tyX12_ok nmX12 rfl (by decide) wfX12_init_39 (fun _ h => h) rfl hm rfl rfl (rfl) (rfl) (FF_put (by rw [va_up_other _ _ _ hne]; exact s8.1) (Nat.le_of_ble_eq_true rfl)) ?_
  obtain ⟨f9, hf⟩ : ∃ fz, fz = va_up (va_up f8 q9 (some (.inl (cI, 8, .inl (fun _ => 0))))) md (some (.inr (12, (vM [q1, q2, q3, q4, q5, q6, q7, q8]).set 15 (.ref q9)))) := ⟨_, rfl⟩
  refine v_x (x' := (f9, T)) (fun H hP => by rw [hf]; exact hP) ?_
  have s9 : sM cI cZ f f9 md [q1, q2, q3, q4, q5, q6, q7, q8, q9] := by rw [hf]; exact s8.step hq.1 (vM_set (Nat.le_of_ble_eq_true rfl)) rfl
  clear hf hq hne s8
  refine v_aload_n C dX12_init_82 (j := 0) rfl rfl ?_
  refine v_bipush C dX12_init_83 (v := 48) (by decide) ?_
  refine v_newa C (N := 48) (a0 := (48, .inl (fun _ => 0))) (atype := .int) dX12_init_85 wwX12_init_acint 1 ht1 rfl (by first | exact vp_cell_i _ _ _ | rfl) (by decide) (by decide) (Nat.le_of_ble_eq_true rfl) (by first | exact Nat.le_of_ble_eq_true rfl | (dsimp only; omega)) (by first | exact Nat.le_of_ble_eq_true rfl | (dsimp only; omega)) (FF_new _) (fun q10 hq => ?_)
  have hne : md ≠ q10 := fun z => by have h9 := hq.1; rw [← z, s9.1] at h9; cases h9
  refine v_putF C (T := TX12) (ci := 12) (j := 16) (ty := (.array .int)) dX12_init_87 wiX12_init_X12 tyX12 tyX12_ok nmX12 rfl (by decide) wfX12_init_42 (fun _ h => h) rfl hm rfl rfl (rfl) (rfl) (FF_put (by rw [va_up_other _ _ _ hne]; exact s9.1) (Nat.le_of_ble_eq_true rfl)) ?_
  obtain ⟨f10, hf⟩ : ∃ fz, fz = va_up (va_up f9 q10 (some (.inl (cI, 48, .inl (fun _ => 0))))) md (some (.inr (12, (vM [q1, q2, q3, q4, q5, q6, q7, q8, q9]).set 16 (.ref q10)))) := ⟨_, rfl⟩
  refine v_x (x' := (f10, T)) (fun H hP => by rw [hf]; exact hP) ?_
  have s10 : sM cI cZ f f10 md [q1, q2, q3, q4, q5, q6, q7, q8, q9, q10] := by rw [hf]; exact s9.step hq.1 (vM_set (Nat.le_of_ble_eq_true rfl)) rfl
  clear hf hq hne s9
  refine v_aload_n C dX12_init_90 (j := 0) rfl rfl ?_
  refine v_bipush C dX12_init_91 (v := 48) (by decide) ?_
  refine v_newa C (N := 48) (a0 := (48, .inl (fun _ => 0))) (atype := .int) dX12_init_93 wwX12_init_acint 1 ht1 rfl (by first | exact vp_cell_i _ _ _ | rfl) (by decide) (by decide) (Nat.le_of_ble_eq_true rfl) (by first | exact Nat.le_of_ble_eq_true rfl | (dsimp only; omega)) (by first | exact Nat.le_of_ble_eq_true rfl | (dsimp only; omega)) (FF_new _) (fun q11 hq => ?_)
  have hne : md ≠ q11 := fun z => by have h9 := hq.1; rw [← z, s10.1] at h9; cases h9
  refine v_putF C (T := TX12) (ci := 12) (j := 17) (ty := (.array .int)) dX12_init_95 wiX12_init_X12 tyX12 tyX12_ok nmX12 rfl (by decide) wfX12_init_45 (fun _ h => h) rfl hm rfl rfl (rfl) (rfl) (FF_put (by rw [va_up_other _ _ _ hne]; exact s10.1) (Nat.le_of_ble_eq_true rfl)) ?_
  obtain ⟨f11, hf⟩ : ∃ fz, fz = va_up (va_up f10 q11 (some (.inl (cI, 48, .inl (fun _ => 0))))) md (some (.inr (12, (vM [q1, q2, q3, q4, q5, q6, q7, q8, q9, q10]).set 17 (.ref q11)))) := ⟨_, rfl⟩
  refine v_x (x' := (f11, T)) (fun H hP => by rw [hf]; exact hP) ?_
  have s11 : sM cI cZ f f11 md [q1, q2, q3, q4, q5, q6, q7, q8, q9, q10, q11] := by rw [hf]; exact s10.step hq.1 (vM_set (Nat.le_of_ble_eq_true rfl)) rfl
  clear hf hq hne s10
  refine v_aload_n C dX12_init_98 (j := 0) rfl rfl ?_
  refine v_bipush C dX12_init_99 (v := 48) (by decide) ?_
  refine v_newa C (N := 48) (a0 := (48, .inl (fun _ => 0))) (atype := .int) dX12_init_101 wwX12_init_acint 1 ht1 rfl (by first | exact vp_cell_i _ _ _ | rfl) (by decide) (by decide) (Nat.le_of_ble_eq_true rfl) (by first | exact Nat.le_of_ble_eq_true rfl | (dsimp only; omega)) (by first | exact Nat.le_of_ble_eq_true rfl | (dsimp only; omega)) (FF_new _) (fun q12 hq => ?_)
  have hne : md ≠ q12 := fun z => by have h9 := hq.1; rw [← z, s11.1] at h9; cases h9
  refine v_putF C (T := TX12) (ci := 12) (j := 18) (ty := (.array .int)) dX12_init_103 wiX12_init_X12 tyX12 tyX12_ok nmX12 rfl (by decide) wfX12_init_48 (fun _ h => h) rfl hm rfl rfl (rfl) (rfl) (FF_put (by rw [va_up_other _ _ _ hne]; exact s11.1) (Nat.le_of_ble_eq_true rfl)) ?_
  obtain ⟨f12, hf⟩ : ∃ fz, fz = va_up (va_up f11 q12 (some (.inl (cI, 48, .inl (fun _ => 0))))) md (some (.inr (12, (vM [q1, q2, q3, q4, q5, q6, q7, q8, q9, q10, q11]).set 18 (.ref q12)))) := ⟨_, rfl⟩
  refine v_x (x' := (f12, T)) (fun H hP => by rw [hf]; exact hP) ?_
  have s12 : sM cI cZ f f12 md [q1, q2, q3, q4, q5, q6, q7, q8, q9, q10, q11, q12] := by rw [hf]; exact s11.step hq.1 (vM_set (Nat.le_of_ble_eq_true rfl)) rfl
  clear hf hq hne s11
  refine v_aload_n C dX12_init_106 (j := 0) rfl rfl ?_
  refine v_bipush C dX12_init_107 (v := 48) (by decide) ?_
  refine v_newa C (N := 48) (a0 := (48, .inl (fun _ => 0))) (atype := .int) dX12_init_109 wwX12_init_acint 1 ht1 rfl (by first | exact vp_cell_i _ _ _ | rfl) (by decide) (by decide) (Nat.le_of_ble_eq_true rfl) (by first | exact Nat.le_of_ble_eq_true rfl | (dsimp only; omega)) (by first | exact Nat.le_of_ble_eq_true rfl | (dsimp only; omega)) (FF_new _) (fun q13 hq => ?_)
  have hne : md ≠ q13 := fun z => by have h9 := hq.1; rw [← z, s12.1] at h9; cases h9
  refine v_putF C (T := TX12) (ci := 12) (j := 19) (ty := (.array .int)) dX12_init_111 wiX12_init_X12 tyX12 tyX12_ok nmX12 rfl (by decide) wfX12_init_51 (fun _ h => h) rfl hm rfl rfl (rfl) (rfl) (FF_put (by rw [va_up_other _ _ _ hne]; exact s12.1) (Nat.le_of_ble_eq_true rfl)) ?_
  obtain ⟨f13, hf⟩ : ∃ fz, fz = va_up (va_up f12 q13 (some (.inl (cI, 48, .inl (fun _ => 0))))) md (some (.inr (12, (vM [q1, q2, q3, q4, q5, q6, q7, q8, q9, q10, q11, q12]).set 19 (.ref q13)))) := ⟨_, rfl⟩
  refine v_x (x' := (f13, T)) (fun H hP => by rw [hf]; exact hP) ?_
  have s13 : sM cI cZ f f13 md [q1, q2, q3, q4, q5, q6, q7, q8, q9, q10, q11, q12, q13] := by rw [hf]; exact s12.step hq.1 (vM_set (Nat.le_of_ble_eq_true rfl)) rfl
  clear hf hq hne s12
  refine v_aload_n C dX12_init_114 (j := 0) rfl rfl ?_
  refine v_bipush C dX12_init_115 (v := 48) (by decide) ?_
  refine v_newa C (N := 48) (a0 := (48, .inl (fun _ => 0))) (atype := .int) dX12_init_117 wwX12_init_acint 1 ht1 rfl (by first | exact vp_cell_i _ _ _ | rfl) (by decide) (by decide) (Nat.le_of_ble_eq_true rfl) (by first | exact Nat.le_of_ble_eq_true rfl | (dsimp only; omega)) (by first | exact Nat.le_of_ble_eq_true rfl | (dsimp only; omega)) (FF_new _) (fun q14 hq => ?_)
  have hne : md ≠ q14 := fun z => by have h9 := hq.1; rw [← z, s13.1] at h9; cases h9
  refine v_putF C (T := TX12) (ci := 12) (j := 20) (ty := (.array .int)) dX12_init_119 wiX12_init_X12 tyX12 tyX12_ok nmX12 rfl (by decide) wfX12_init_54 (fun _ h => h) rfl hm rfl rfl (rfl) (rfl) (FF_put (by rw [va_up_other _ _ _ hne]; exact s13.1) (Nat.le_of_ble_eq_true rfl)) ?_
  obtain ⟨f14, hf⟩ : ∃ fz, fz = va_up (va_up f13 q14 (some (.inl (cI, 48, .inl (fun _ => 0))))) md (some (.inr (12, (vM [q1, q2, q3, q4, q5, q6, q7, q8, q9, q10, q11, q12, q13]).set 20 (.ref q14)))) := ⟨_, rfl⟩
  refine v_x (x' := (f14, T)) (fun H hP => by rw [hf]; exact hP) ?_
  have s14 : sM cI cZ f f14 md [q1, q2, q3, q4, q5, q6, q7, q8, q9, q10, q11, q12, q13, q14] := by rw [hf]; exact s13.step hq.1 (vM_set (Nat.le_of_ble_eq_true rfl)) rfl
  clear hf hq hne s13
  refine v_aload_n C dX12_init_122 (j := 0) rfl rfl ?_
  refine v_sipush C dX12_init_123 (v := 1200) (by decide) ?_
  refine v_newa C (N := 1200) (a0 := (1200, .inl (fun _ => 0))) (atype := .int) dX12_init_126 wwX12_init_acint 1 ht1 rfl (by first | exact vp_cell_i _ _ _ | rfl) (by decide) (by decide) (Nat.le_of_ble_eq_true rfl) (by first | exact Nat.le_of_ble_eq_true rfl | (dsimp only; omega)) (by first | exact Nat.le_of_ble_eq_true rfl | (dsimp only; omega)) (FF_new _) (fun q15 hq => ?_)
  have hne : md ≠ q15 := fun z => by have h9 := hq.1; rw [← z, s14.1] at h9; cases h9
  refine v_putF C (T := TX12) (ci := 12) (j := 22) (ty := (.array .int)) dX12_init_128 wiX12_init_X12 tyX12 tyX12_ok nmX12 rfl (by decide) wfX12_init_57 (fun _ h => h) rfl hm rfl rfl (rfl) (rfl) (FF_put (by rw [va_up_other _ _ _ hne]; exact s14.1) (Nat.le_of_ble_eq_true rfl)) ?_
  obtain ⟨f15, hf⟩ : ∃ fz, fz = va_up (va_up f14 q15 (some (.inl (cI, 1200, .inl (fun _ => 0))))) md (some (.inr (12, (vM [q1, q2, q3, q4, q5, q6, q7, q8, q9, q10, q11, q12, q13, q14]).set 22 (.ref q15)))) := ⟨_, rfl⟩
  refine v_x (x' := (f15, T)) (fun H hP => by rw [hf]; exact hP) ?_
  have s15 : sM cI cZ f f15 md [q1, q2, q3, q4, q5, q6, q7, q8, q9, q10, q11, q12, q13, q14, q15] := by rw [hf]; exact s14.step hq.1 (vM_set (Nat.le_of_ble_eq_true rfl)) rfl
  clear hf hq hne s14
  refine v_aload_n C dX12_init_131 (j := 0) rfl rfl ?_
  refine v_bipush C dX12_init_132 (v := 20) (by decide) ?_
  refine v_newa C (N := 20) (a0 := (20, .inl (fun _ => 0))) (atype := .int) dX12_init_134 wwX12_init_acint 1 ht1 rfl (by first | exact vp_cell_i _ _ _ | rfl) (by decide) (by decide) (Nat.le_of_ble_eq_true rfl) (by first | exact Nat.le_of_ble_eq_true rfl | (dsimp only; omega)) (by first | exact Nat.le_of_ble_eq_true rfl | (dsimp only; omega)) (FF_new _) (fun q16 hq => ?_)
  have hne : md ≠ q16 := fun z => by have h9 := hq.1; rw [← z, s15.1] at h9; cases h9
  refine v_putF C (T := TX12) (ci := 12) (j := 23) (ty := (.array .int)) dX12_init_136 wiX12_init_X12 tyX12 tyX12_ok nmX12 rfl (by decide) wfX12_init_60 (fun _ h => h) rfl hm rfl rfl (rfl) (rfl) (FF_put (by rw [va_up_other _ _ _ hne]; exact s15.1) (Nat.le_of_ble_eq_true rfl)) ?_
  obtain ⟨f16, hf⟩ : ∃ fz, fz = va_up (va_up f15 q16 (some (.inl (cI, 20, .inl (fun _ => 0))))) md (some (.inr (12, (vM [q1, q2, q3, q4, q5, q6, q7, q8, q9, q10, q11, q12, q13, q14, q15]).set 23 (.ref q16)))) := ⟨_, rfl⟩
  refine v_x (x' := (f16, T)) (fun H hP => by rw [hf]; exact hP) ?_
  have s16 : sM cI cZ f f16 md [q1, q2, q3, q4, q5, q6, q7, q8, q9, q10, q11, q12, q13, q14, q15, q16] := by rw [hf]; exact s15.step hq.1 (vM_set (Nat.le_of_ble_eq_true rfl)) rfl
  clear hf hq hne s15
  refine v_aload_n C dX12_init_139 (j := 0) rfl rfl ?_
  refine v_bipush C dX12_init_140 (v := 20) (by decide) ?_
  refine v_newa C (N := 20) (a0 := (20, .inl (fun _ => 0))) (atype := .int) dX12_init_142 wwX12_init_acint 1 ht1 rfl (by first | exact vp_cell_i _ _ _ | rfl) (by decide) (by decide) (Nat.le_of_ble_eq_true rfl) (by first | exact Nat.le_of_ble_eq_true rfl | (dsimp only; omega)) (by first | exact Nat.le_of_ble_eq_true rfl | (dsimp only; omega)) (FF_new _) (fun q17 hq => ?_)
  have hne : md ≠ q17 := fun z => by have h9 := hq.1; rw [← z, s16.1] at h9; cases h9
  refine v_putF C (T := TX12) (ci := 12) (j := 24) (ty := (.array .int)) dX12_init_144 wiX12_init_X12 tyX12 tyX12_ok nmX12 rfl (by decide) wfX12_init_63 (fun _ h => h) rfl hm rfl rfl (rfl) (rfl) (FF_put (by rw [va_up_other _ _ _ hne]; exact s16.1) (Nat.le_of_ble_eq_true rfl)) ?_
  obtain ⟨f17, hf⟩ : ∃ fz, fz = va_up (va_up f16 q17 (some (.inl (cI, 20, .inl (fun _ => 0))))) md (some (.inr (12, (vM [q1, q2, q3, q4, q5, q6, q7, q8, q9, q10, q11, q12, q13, q14, q15, q16]).set 24 (.ref q17)))) := ⟨_, rfl⟩
  refine v_x (x' := (f17, T)) (fun H hP => by rw [hf]; exact hP) ?_
  have s17 : sM cI cZ f f17 md [q1, q2, q3, q4, q5, q6, q7, q8, q9, q10, q11, q12, q13, q14, q15, q16, q17] := by rw [hf]; exact s16.step hq.1 (vM_set (Nat.le_of_ble_eq_true rfl)) rfl
  clear hf hq hne s16
  refine v_aload_n C dX12_init_147 (j := 0) rfl rfl ?_
  refine v_sipush C dX12_init_148 (v := 2400) (by decide) ?_
  refine v_newa C (N := 2400) (a0 := (2400, .inl (fun _ => 0))) (atype := .int) dX12_init_151 wwX12_init_acint 1 ht1 rfl (by first | exact vp_cell_i _ _ _ | rfl) (by decide) (by decide) (Nat.le_of_ble_eq_true rfl) (by first | exact Nat.le_of_ble_eq_true rfl | (dsimp only; omega)) (by first | exact Nat.le_of_ble_eq_true rfl | (dsimp only; omega)) (FF_new _) (fun q18 hq => ?_)
  have hne : md ≠ q18 := fun z => by have h9 := hq.1; rw [← z, s17.1] at h9; cases h9
  refine v_putF C (T := TX12) (ci := 12) (j := 26) (ty := (.array .int)) dX12_init_153 wiX12_init_X12 tyX12 tyX12_ok nmX12 rfl (by decide) wfX12_init_66 (fun _ h => h) rfl hm rfl rfl (rfl) (rfl) (FF_put (by rw [va_up_other _ _ _ hne]; exact s17.1) (Nat.le_of_ble_eq_true rfl)) ?_
  obtain ⟨f18, hf⟩ : ∃ fz, fz = va_up (va_up f17 q18 (some (.inl (cI, 2400, .inl (fun _ => 0))))) md (some (.inr (12, (vM [q1, q2, q3, q4, q5, q6, q7, q8, q9, q10, q11, q12, q13, q14, q15, q16, q17]).set 26 (.ref q18)))) := ⟨_, rfl⟩
  refine v_x (x' := (f18, T)) (fun H hP => by rw [hf]; exact hP) ?_
  have s18 : sM cI cZ f f18 md [q1, q2, q3, q4, q5, q6, q7, q8, q9, q10, q11, q12, q13, q14, q15, q16, q17, q18] := by rw [hf]; exact s17.step hq.1 (vM_set (Nat.le_of_ble_eq_true rfl)) rfl
  clear hf hq hne s17
  refine v_aload_n C dX12_init_156 (j := 0) rfl rfl ?_
  refine v_bipush C dX12_init_157 (v := 40) (by decide) ?_
  refine v_newa C (N := 40) (a0 := (40, .inl (fun _ => 0))) (atype := .int) dX12_init_159 wwX12_init_acint 1 ht1 rfl (by first | exact vp_cell_i _ _ _ | rfl) (by decide) (by decide) (Nat.le_of_ble_eq_true rfl) (by first | exact Nat.le_of_ble_eq_true rfl | (dsimp only; omega)) (by first | exact Nat.le_of_ble_eq_true rfl | (dsimp only; omega)) (FF_new _) (fun q19 hq => ?_)
  have hne : md ≠ q19 := fun z => by have h9 := hq.1; rw [← z, s18.1] at h9; cases h9
  refine v_putF C (T := TX12) (ci := 12) (j := 27) (ty := (.array .int)) dX12_init_161 wiX12_init_X12 tyX12 tyX12_ok nmX12 rfl (by decide) wfX12_init_69 (fun _ h => h) rfl hm rfl rfl (rfl) (rfl) (FF_put (by rw [va_up_other _ _ _ hne]; exact s18.1) (Nat.le_of_ble_eq_true rfl)) ?_
  obtain ⟨f19, hf⟩ : ∃ fz, fz = va_up (va_up f18 q19 (some (.inl (cI, 40, .inl (fun _ => 0))))) md (some (.inr (12, (vM [q1, q2, q3, q4, q5, q6, q7, q8, q9, q10, q11, q12, q13, q14, q15, q16, q17, q18]).set 27 (.ref q19)))) := ⟨_, rfl⟩
  refine v_x (x' := (f19, T)) (fun H hP => by rw [hf]; exact hP) ?_
  have s19 : sM cI cZ f f19 md [q1, q2, q3, q4, q5, q6, q7, q8, q9, q10, q11, q12, q13, q14, q15, q16, q17, q18, q19] := by rw [hf]; exact s18.step hq.1 (vM_set (Nat.le_of_ble_eq_true rfl)) rfl
  clear hf hq hne s18
  refine v_aload_n C dX12_init_164 (j := 0) rfl rfl ?_
  refine v_bipush C dX12_init_165 (v := 60) (by decide) ?_
  refine v_newa C (N := 60) (a0 := (60, .inl (fun _ => 0))) (atype := .int) dX12_init_167 wwX12_init_acint 1 ht1 rfl (by first | exact vp_cell_i _ _ _ | rfl) (by decide) (by decide) (Nat.le_of_ble_eq_true rfl) (by first | exact Nat.le_of_ble_eq_true rfl | (dsimp only; omega)) (by first | exact Nat.le_of_ble_eq_true rfl | (dsimp only; omega)) (FF_new _) (fun q20 hq => ?_)
  have hne : md ≠ q20 := fun z => by have h9 := hq.1; rw [← z, s19.1] at h9; cases h9
  refine v_putF C (T := TX12) (ci := 12) (j := 28) (ty := (.array .int)) dX12_init_169 wiX12_init_X12 tyX12 tyX12_ok nmX12 rfl (by decide) wfX12_init_72 (fun _ h => h) rfl hm rfl rfl (rfl) (rfl) (FF_put (by rw [va_up_other _ _ _ hne]; exact s19.1) (Nat.le_of_ble_eq_true rfl)) ?_
  obtain ⟨f20, hf⟩ : ∃ fz, fz = va_up (va_up f19 q20 (some (.inl (cI, 60, .inl (fun _ => 0))))) md (some (.inr (12, (vM [q1, q2, q3, q4, q5, q6, q7, q8, q9, q10, q11, q12, q13, q14, q15, q16, q17, q18, q19]).set 28 (.ref q20)))) := ⟨_, rfl⟩
  refine v_x (x' := (f20, T)) (fun H hP => by rw [hf]; exact hP) ?_
  have s20 : sM cI cZ f f20 md [q1, q2, q3, q4, q5, q6, q7, q8, q9, q10, q11, q12, q13, q14, q15, q16, q17, q18, q19, q20] := by rw [hf]; exact s19.step hq.1 (vM_set (Nat.le_of_ble_eq_true rfl)) rfl
  clear hf hq hne s19
  refine v_aload_n C dX12_init_172 (j := 0) rfl rfl ?_
  refine v_bipush C dX12_init_173 (v := 60) (by decide) ?_
  refine v_newa C (N := 60) (a0 := (60, .inl (fun _ => 0))) (atype := .int) dX12_init_175 wwX12_init_acint 1 ht1 rfl (by first | exact vp_cell_i _ _ _ | rfl) (by decide) (by decide) (Nat.le_of_ble_eq_true rfl) (by first | exact Nat.le_of_ble_eq_true rfl | (dsimp only; omega)) (by first | exact Nat.le_of_ble_eq_true rfl | (dsimp only; omega)) (FF_new _) (fun q21 hq => ?_)
  have hne : md ≠ q21 := fun z => by have h9 := hq.1; rw [← z, s20.1] at h9; cases h9
  refine v_putF C (T := TX12) (ci := 12) (j := 30) (ty := (.array .int)) dX12_init_177 wiX12_init_X12 tyX12 tyX12_ok nmX12 rfl (by decide) wfX12_init_75 (fun _ h => h) rfl hm rfl rfl (rfl) (rfl) (FF_put (by rw [va_up_other _ _ _ hne]; exact s20.1) (Nat.le_of_ble_eq_true rfl)) ?_
  obtain ⟨f21, hf⟩ : ∃ fz, fz = va_up (va_up f20 q21 (some (.inl (cI, 60, .inl (fun _ => 0))))) md (some (.inr (12, (vM [q1, q2, q3, q4, q5, q6, q7, q8, q9, q10, q11, q12, q13, q14, q15, q16, q17, q18, q19, q20]).set 30 (.ref q21)))) := ⟨_, rfl⟩
  refine v_x (x' := (f21, T)) (fun H hP => by rw [hf]; exact hP) ?_
  have s21 : sM cI cZ f f21 md [q1, q2, q3, q4, q5, q6, q7, q8, q9, q10, q11, q12, q13, q14, q15, q16, q17, q18, q19, q20, q21] := by rw [hf]; exact s20.step hq.1 (vM_set (Nat.le_of_ble_eq_true rfl)) rfl
  clear hf hq hne s20
  refine v_aload_n C dX12_init_180 (j := 0) rfl rfl ?_
  refine v_bipush C dX12_init_181 (v := 12) (by decide) ?_
  refine v_newa C (N := 12) (a0 := (12, .inl (fun _ => 0))) (atype := .int) dX12_init_183 wwX12_init_acint 1 ht1 rfl (by first | exact vp_cell_i _ _ _ | rfl) (by decide) (by decide) (Nat.le_of_ble_eq_true rfl) (by first | exact Nat.le_of_ble_eq_true rfl | (dsimp only; omega)) (by first | exact Nat.le_of_ble_eq_true rfl | (dsimp only; omega)) (FF_new _) (fun q22 hq => ?_)
  have hne : md ≠ q22 := fun z => by have h9 := hq.1; rw [← z, s21.1] at h9; cases h9
  refine v_putF C (T := TX12) (ci := 12) (j := 32) (ty := (.array .int)) dX12_init_185 wiX12_init_X12 tyX12 tyX12_ok nmX12 rfl (by decide) wfX12_init_78 (fun _ h => h) rfl hm rfl rfl (rfl) (rfl) (FF_put (by rw [va_up_other _ _ _ hne]; exact s21.1) (Nat.le_of_ble_eq_true rfl)) ?_
  obtain ⟨f22, hf⟩ : ∃ fz, fz = va_up (va_up f21 q22 (some (.inl (cI, 12, .inl (fun _ => 0))))) md (some (.inr (12, (vM [q1, q2, q3, q4, q5, q6, q7, q8, q9, q10, q11, q12, q13, q14, q15, q16, q17, q18, q19, q20, q21]).set 32 (.ref q22)))) := ⟨_, rfl⟩
  refine v_x (x' := (f22, T)) (fun H hP => by rw [hf]; exact hP) ?_
  have s22 : sM cI cZ f f22 md [q1, q2, q3, q4, q5, q6, q7, q8, q9, q10, q11, q12, q13, q14, q15, q16, q17, q18, q19, q20, q21, q22] := by rw [hf]; exact s21.step hq.1 (vM_set (Nat.le_of_ble_eq_true rfl)) rfl
  clear hf hq hne s21
  exact v_return C dX12_init_188 hr (Nat.le_of_ble_eq_true rfl) (Nat.le_of_ble_eq_true rfl) (⟨_, f22, rfl, s22.fin rfl⟩)
end NM
