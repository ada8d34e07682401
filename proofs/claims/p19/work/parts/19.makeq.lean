/-! ===== constructors with arrays of texts and rows ===== -/
theorem wwX8_init_oi3 : Cond.methodLink RX8 3 Lib.objectInit ∈ wsX8_init := by decide +kernel
theorem wwX8_init_oim : Cond.instanceMethod Lib.objectInit ∈ wsX8_init := by decide +kernel
theorem wwX8_init_oic : Cond.code Lib.objectInit ⟨#[0xb1]⟩ 1 none ∈ wsX8_init := by decide +kernel
theorem wwX8_init_cl11 : Cond.classLink RX8 11 "FieldScribe$Text" ∈ wsX8_init := by decide +kernel
theorem wfX8_init_13 : Cond.fieldLink RX8 13 "FieldScribe$StackMachine" (TX8 0).2.1 (TX8 0).2.2.1 ∈ wsX8_init := by decide +kernel
theorem wiX8_init_X8 : ∀ w ∈ u_ws RX8 TX8 1, w ∈ wsX8_init := by decide +kernel
theorem wiX8_init_X10 : ∀ w ∈ u_ws RX10 TX10 2, w ∈ wsX8_init := by decide +kernel
theorem wwX8_init_isX10 : Cond.instantiable RX10 2 ∈ wsX8_init := by decide +kernel
theorem wwX8_init_inX10 : Cond.initialized RX10 ∈ wsX8_init := by decide +kernel
theorem wwX8_init_in_X10_init : Cond.initialized yX10_init.cls ∈ wsX8_init := by decide +kernel
theorem wwX8_init_st_X10_init : Cond.instanceMethod yX10_init ∈ wsX8_init := by decide +kernel
theorem wwX5_init_oi3 : Cond.methodLink RX5 3 Lib.objectInit ∈ wsX5_init := by decide +kernel
theorem wwX5_init_oim : Cond.instanceMethod Lib.objectInit ∈ wsX5_init := by decide +kernel
theorem wwX5_init_oic : Cond.code Lib.objectInit ⟨#[0xb1]⟩ 1 none ∈ wsX5_init := by decide +kernel
theorem wwX5_init_cl9 : Cond.classLink RX5 9 "FieldScribe$Text" ∈ wsX5_init := by decide +kernel
theorem wfX5_init_11 : Cond.fieldLink RX5 11 "FieldScribe$Printout" (TX5 0).2.1 (TX5 0).2.2.1 ∈ wsX5_init := by decide +kernel
theorem wiX5_init_X5 : ∀ w ∈ u_ws RX5 TX5 3, w ∈ wsX5_init := by decide +kernel
theorem wiX5_init_X10 : ∀ w ∈ u_ws RX10 TX10 2, w ∈ wsX5_init := by decide +kernel
theorem wwX5_init_isX10 : Cond.instantiable RX10 2 ∈ wsX5_init := by decide +kernel
theorem wwX5_init_inX10 : Cond.initialized RX10 ∈ wsX5_init := by decide +kernel
theorem wwX5_init_in_X10_init : Cond.initialized yX10_init.cls ∈ wsX5_init := by decide +kernel
theorem wwX5_init_st_X10_init : Cond.instanceMethod yX10_init ∈ wsX5_init := by decide +kernel
theorem wwX4_init_oi3 : Cond.methodLink RX4 3 Lib.objectInit ∈ wsX4_init := by decide +kernel
theorem wwX4_init_oim : Cond.instanceMethod Lib.objectInit ∈ wsX4_init := by decide +kernel
theorem wwX4_init_oic : Cond.code Lib.objectInit ⟨#[0xb1]⟩ 1 none ∈ wsX4_init := by decide +kernel
theorem wiX4_init_X10 : ∀ w ∈ u_ws RX10 TX10 2, w ∈ wsX4_init := by decide +kernel
theorem wwX4_init_cl9 : Cond.classLink RX4 9 RX10 ∈ wsX4_init := by decide +kernel
theorem wwX4_init_isX10 : Cond.instantiable RX10 2 ∈ wsX4_init := by decide +kernel
theorem wwX4_init_inX10 : Cond.initialized RX10 ∈ wsX4_init := by decide +kernel
theorem wwX4_init_in_X10_init : Cond.initialized yX10_init.cls ∈ wsX4_init := by decide +kernel
theorem wwX4_init_st_X10_init : Cond.instanceMethod yX10_init ∈ wsX4_init := by decide +kernel
theorem wfX4_init_12 : Cond.fieldLink RX4 12 "FieldScribe$Page" (TX4 0).2.1 (TX4 0).2.2.1 ∈ wsX4_init := by decide +kernel
theorem wiX4_init_X4 : ∀ w ∈ u_ws RX4 TX4 5, w ∈ wsX4_init := by decide +kernel
theorem wfX4_init_18 : Cond.fieldLink RX4 18 "FieldScribe$Page" (TX4 1).2.1 (TX4 1).2.2.1 ∈ wsX4_init := by decide +kernel
theorem wfX4_init_22 : Cond.fieldLink RX4 22 "FieldScribe$Page" (TX4 2).2.1 (TX4 2).2.2.1 ∈ wsX4_init := by decide +kernel
def txA (f0 : Nat → Option va_E) (T0 : Nat → Option (List Int32)) (f : Nat → Option va_E) (T : Nat → Option (List Int32)) (arr : Nat) (cT : ClassId) (N i : Nat) (q : Nat → Nat) (rf : Nat → Option Nat) : Prop :=
  f = va_up f0 arr (some (.inl (cT, N, .inr (.inr (.inr (.inr rf)))))) ∧ (∀ k, k < i → rf k = some (q k) ∧ T (q k) = some [] ∧ T0 (q k) = none) ∧ (∀ a b, a < i → b < i → q a = q b → a = b) ∧ ∀ p, (∀ k, k < i → p ≠ q k) → T p = T0 p
theorem txA_0 {f0 : Nat → Option va_E} {T0 : Nat → Option (List Int32)} {arr : Nat} {cT : ClassId} {N : Nat} {rf : Nat → Option Nat} (h : f0 arr = some (.inl (cT, N, .inr (.inr (.inr (.inr rf)))))) (q : Nat → Nat) : txA f0 T0 f0 T0 arr cT N 0 q rf :=
  ⟨(up_id h).symm, fun k hk => absurd hk (Nat.not_lt_zero k), fun a b ha => absurd ha (Nat.not_lt_zero a), fun _ _ => rfl⟩
theorem txA_step {f0 : Nat → Option va_E} {T0 : Nat → Option (List Int32)} {f : Nat → Option va_E} {T : Nat → Option (List Int32)} {arr : Nat} {cT : ClassId} {N i : Nat} {q : Nat → Nat} {rf : Nat → Option Nat} (h : txA f0 T0 f T arr cT N i q rf) {p : Nat} (hp : T p = none) : txA f0 T0 (va_up f arr (some (.inl (cT, N, .inr (.inr (.inr (.inr (va_up rf i (some p)))))))) ) (va_up T p (some [])) arr cT N (i + 1) (va_up q i p) (va_up rf i (some p)) := by
  obtain ⟨h1, h2, h3, h4⟩ := h
  have hpq : ∀ k, k < i → p ≠ q k := fun k hk z => by rw [z, (h2 k hk).2.1] at hp; cases hp
  refine ⟨by rw [h1, up_up], fun k hk => ?_, fun a b ha hb hab => ?_, fun r hr => ?_⟩
  · by_cases hki : k = i
    · subst hki; rw [va_up_same, va_up_same, va_up_same]; exact ⟨rfl, rfl, by rw [← h4 p hpq]; exact hp⟩
    · rw [va_up_other _ _ _ hki, va_up_other _ _ _ hki, va_up_other _ _ _ (Ne.symm (hpq k (by omega)))]; exact h2 k (by omega)
  · by_cases ha1 : a = i
    · by_cases hb1 : b = i
      · omega
      · subst ha1; rw [va_up_same, va_up_other _ _ _ hb1] at hab; exact absurd hab (hpq b (by omega))
    · by_cases hb1 : b = i
      · subst hb1; rw [va_up_same, va_up_other _ _ _ ha1] at hab; exact absurd hab.symm (hpq a (by omega))
      · rw [va_up_other _ _ _ ha1, va_up_other _ _ _ hb1] at hab; exact h3 a b (by omega) (by omega) hab
  · have h5 := hr i (by omega)
    rw [va_up_same] at h5
    rw [va_up_other _ _ _ h5]
    exact h4 r (fun k hk => by have := hr k (by omega); rw [va_up_other _ _ _ (by omega)] at this; exact this)
/-- an array of N new texts -/
def txR (f' : Nat → Option va_E) (T T' : Nat → Option (List Int32)) (cT : ClassId) (arr N : Nat) (q : Nat → Nat) : Prop := (∃ rf : Nat → Option Nat, f' arr = some (.inl (cT, N, .inr (.inr (.inr (.inr rf))))) ∧ ∀ k, k < N → rf k = some (q k)) ∧ (∀ k, k < N → T' (q k) = some [] ∧ T (q k) = none) ∧ ∀ a b, a < N → b < N → q a = q b → a = b
/-- all that was there stays, but the object obj -/
def extO (f f' : Nat → Option va_E) (T T' : Nat → Option (List Int32)) (obj : Nat) : Prop := (∀ p, p ≠ obj → f p ≠ none → f' p = f p) ∧ ∀ p, T p ≠ none → T' p = T p
section MA
variable {l : Launch} {D : va_G} {tys : List (ClassId × FieldType)} {z0 : Nat} {A : Nat → Prop} {cC cT cR : ClassId} {f : Nat → Option va_E} {T : Nat → Option (List Int32)}
set_option maxRecDepth 100000 in
set_option maxHeartbeats 4000000 in
theorem k_sminit (ht : tys[0]? = some (cC, .char)) (ht4 : tys[4]? = some (cT, .object RX10)) {sm : Nat} (h1 : f sm = some (.inr (8, [.null]))) : ct D tys z0 A (picF D cC A) l yX8_init wsX8_init ({ frames := 2, cells := 5, slots := 126, locals := 44 } : Room) [.ref sm] (f, T) (qV (picF D cC A) A (fun x => ∃ arr q f' T', x = (f', T') ∧ f' sm = some (.inr (8, [.ref arr])) ∧ txR f' T T' cT arr 2 q ∧ f arr = none ∧ extO f f' T T' sm)) := by
  refine ct_of RX8 (by decide +kernel) rfl rfl (Nat.le_of_ble_eq_true rfl) ?_
  intro p e s m below meth c C hr hm
  refine v_lv (lv' := [(0, _)]) rfl ?_
  refine v_aload_n C dX8_init_0 (j := 0) rfl rfl ?_
  refine v_objInit C dX8_init_1 wwX8_init_oi3 wwX8_init_oim wwX8_init_oic (Nat.le_of_ble_eq_true rfl) (Nat.le_of_ble_eq_true rfl) ?_
  refine v_aload_n C dX8_init_4 (j := 0) rfl rfl ?_
  refine v_iconst C dX8_init_5 (v := 2) (by decide) ?_
  refine v_newq C (N := 2) dX8_init_6 wwX8_init_cl11 (v_nw C 22 rfl) 4 ht4 (by decide) (by decide) (by decide) (by first | exact Nat.le_of_ble_eq_true rfl | (dsimp only; omega)) (by first | exact Nat.le_of_ble_eq_true rfl | (dsimp only; omega)) (FF_new _) (fun arr hq => ?_)
  have h1' : va_up f arr (some (.inl (cT, 2, .inr (.inr (.inr (.inr (fun _ => none))))))) sm = some (.inr (8, [.null])) := by rw [va_up_other _ _ _ (fun z => by rw [← z, h1] at hq; cases hq.1)]; exact h1
  refine v_putF C (T := TX8) (ci := 8) (j := 0) (ty := (.array (.object "FieldScribe$Text"))) dX8_init_9 wiX8_init_X8 tyX8 tyX8_ok nmX8 rfl (by decide) wfX8_init_13 (fun _ h => h) rfl hm rfl rfl (rfl) (rfl) (FF_put h1' (Nat.le_of_ble_eq_true rfl)) ?_
  refine v_iconst C dX8_init_12 (v := 0) (by decide) ?_
  refine v_istore_n C dX8_init_13 rfl (by decide) (lv' := [(1, _), (0, _)]) rfl ?_
  obtain ⟨f0, hf0⟩ : ∃ f0, f0 = va_up (va_up f arr (some (.inl (cT, 2, .inr (.inr (.inr (.inr (fun _ => none)))))))) sm (some (.inr (8, [.ref arr]))) := ⟨_, rfl⟩
  obtain ⟨T0, hT0⟩ : ∃ T0, T0 = T := ⟨_, rfl⟩
  refine v_x (x' := (f0, T0)) (fun H hP => by rw [hf0, hT0]; exact hP) ?_
  have hoa : sm ≠ arr := fun z => by rw [← z] at hq; rw [h1] at hq; cases hq.1
  have ho : f0 sm = some (.inr (8, [.ref arr])) := by rw [hf0]; exact va_up_same _ _ _
  have hA0 : f0 arr = some (.inl (cT, 2, .inr (.inr (.inr (.inr (fun _ => none)))))) := by rw [hf0]; rw [va_up_other _ _ _ (Ne.symm hoa), va_up_same]
  obtain ⟨f2, T2, i, q, rf, hi, hin, e1, e2, hI⟩ : ∃ (f2 : Nat → Option va_E) (T2 : Nat → Option (List Int32)) (i : Nat) (q : Nat → Nat) (rf : Nat → Option Nat), i = 0 ∧ i ≤ 2 ∧ f2 = f0 ∧ T2 = T0 ∧ txA f0 T0 f2 T2 arr cT 2 i q rf := ⟨f0, T0, 0, fun _ => 0, _, rfl, by decide, rfl, rfl, txA_0 hA0 _⟩
  refine v_x (x' := (f2, T2)) (fun H hP => by rw [e1, e2]; exact hP) ?_
  refine v_lv (lv' := [(1, .int (nI i)), (0, .ref sm)]) (by rw [hi]; rfl) ?_
  refine v_kn (k' := 1 + 2 * i) (n' := 2 + 62 * i) (by first | omega | (dsimp only; omega)) (by first | omega | (dsimp only; omega)) ?_
  clear hi e1 e2
  induction hd : (2 - i) using Nat.strongRecOn generalizing i f2 T2 q rf with | _ d ih =>
    have ho2 : f2 sm = some (.inr (8, [.ref arr])) := by rw [hI.1, va_up_other _ _ _ hoa]; exact ho
    have hA2 : f2 arr = some (.inl (cT, 2, .inr (.inr (.inr (.inr rf))))) := by rw [hI.1, va_up_same]
    refine v_iload_n C dX8_init_14 (j := 0) rfl rfl ?_
    refine v_aload_n C dX8_init_15 (j := 1) rfl rfl ?_
    refine v_get C (T := TX8) (ci := 8) (j := 0) dX8_init_16 wiX8_init_X8 rfl (by decide) wfX8_init_13 (fun _ h => h) (FF_get ho2 rfl) ?_
    refine v_alen C (v := nI 2) dX8_init_19 4 ht4 (FF_arr hA2) rfl ?_
    refine v_icmp_ge C 42 dX8_init_20 (by decide) (fun c1 => ?_) (fun c1 => ?_)
    · skip
      have c2 : i = 2 := by have := le_of (a := 2) c1 (by decide) (by omega); omega
      subst c2
      exact v_return C dX8_init_42 hr (by dsimp only; omega) (by dsimp only; omega) (⟨arr, q, _, _, rfl, ho2, ⟨⟨rf, hA2, fun k hk => (hI.2.1 k hk).1⟩, fun k hk => ⟨(hI.2.1 k hk).2.1, by rw [← hT0]; exact (hI.2.1 k hk).2.2⟩, hI.2.2.1⟩, hq.1, ⟨fun p p1 p2 => by rw [hI.1, va_up_other _ _ _ (fun z => p2 (by rw [z]; exact hq.1)), hf0]; rw [va_up_other _ _ _ p1, va_up_other _ _ _ (fun z => p2 (by rw [z]; exact hq.1))], fun p p2 => by rw [hI.2.2.2 p (fun k hk z => p2 (by rw [← hT0, z]; exact (hI.2.1 k hk).2.2)), hT0]⟩⟩)
    · skip
      have c2 : i < 2 := lt_ofn (a := 2) c1 (by decide) (by omega)
      refine v_aload_n C dX8_init_23 (j := 1) rfl rfl ?_
      refine v_get C (T := TX8) (ci := 8) (j := 0) dX8_init_24 wiX8_init_X8 rfl (by decide) wfX8_init_13 (fun _ h => h) (FF_get ho2 rfl) ?_
      refine v_iload_n C dX8_init_27 (j := 0) rfl rfl ?_
      refine v_new C (T := TX10) (ci := 10) dX8_init_28 wiX8_init_X10 tyX10 tyX10_ok wwX8_init_cl11 wwX8_init_isX10 wwX8_init_inX10 rfl (by decide) (by first | exact Nat.le_of_ble_eq_true rfl | (dsimp only; omega)) (by first | exact Nat.le_of_ble_eq_true rfl | (dsimp only; omega)) (FF_new txN) (fun p hp => ?_)
      refine v_dup C dX8_init_31 rfl ?_
      refine v_cv (v_runIN C (k_tinit ht hp.1) ⟨va_cnB 0 C.1.2.2.2.2 gX8_init_X10_init_n17 rfl rfl rfl (v_nest C 8 rfl) (C.1.2.2.2.2 _ wwX8_init_in_X10_init) (by decide +kernel) ⟨Nat.le_of_ble_eq_true rfl, Nat.le_of_ble_eq_true rfl⟩, rfl, C.1.2.2.2.2 _ wwX8_init_st_X10_init⟩ rfl dX8_init_32 (rest := [_, _, _]) (Nat.le_of_ble_eq_true rfl) rfl ⟨(by first | exact Nat.le_of_ble_eq_true rfl | (dsimp only; omega)), (by first | exact Nat.le_of_ble_eq_true rfl | (dsimp only; omega))⟩) (fun x' hx' => ?_)
      subst hx'
      refine v_aast C dX8_init_35 (r := (RX10, TX10, 2)) (ci := 10) 4 ht4 rfl (FF_txt (va_up_same _ _ _)) (vp_in_nI (by omega) (by decide)) (FF_arrset hA2) ?_
      rw [nI_clamp (by omega)]
      refine v_iinc C dX8_init_36 (j := 0) (v := _ + 1) rfl rfl (by decide) (lv' := [(1, _), (0, _)]) rfl ?_
      refine v_goto C 14 dX8_init_39 (by decide) ?_
      rw [nI_1]
      refine v_kn (k' := 1 + 2 * (i + 1)) (n' := 2 + 62 * (i + 1)) (by dsimp only; omega) (by dsimp only; omega) ?_
      exact ih (2 - (i + 1)) (by omega) _ _ (i + 1) _ _ (by omega) (txA_step hI hp.2) rfl
set_option maxRecDepth 100000 in
set_option maxHeartbeats 4000000 in
theorem k_poinit (ht : tys[0]? = some (cC, .char)) (ht4 : tys[4]? = some (cT, .object RX10)) {po : Nat} (h1 : f po = some (.inr (5, [.null, .int 0, .int 0]))) : ct D tys z0 A (picF D cC A) l yX5_init wsX5_init ({ frames := 2, cells := 81, slots := 2520, locals := 44 } : Room) [.ref po] (f, T) (qV (picF D cC A) A (fun x => ∃ arr q f' T', x = (f', T') ∧ f' po = some (.inr (5, [.ref arr, .int 0, .int 0])) ∧ txR f' T T' cT arr 40 q ∧ f arr = none ∧ extO f f' T T' po)) := by
  refine ct_of RX5 (by decide +kernel) rfl rfl (Nat.le_of_ble_eq_true rfl) ?_
  intro p e s m below meth c C hr hm
  refine v_lv (lv' := [(0, _)]) rfl ?_
  refine v_aload_n C dX5_init_0 (j := 0) rfl rfl ?_
  refine v_objInit C dX5_init_1 wwX5_init_oi3 wwX5_init_oim wwX5_init_oic (Nat.le_of_ble_eq_true rfl) (Nat.le_of_ble_eq_true rfl) ?_
  refine v_aload_n C dX5_init_4 (j := 0) rfl rfl ?_
  refine v_bipush C dX5_init_5 (v := 40) (by decide) ?_
  refine v_newq C (N := 40) dX5_init_7 wwX5_init_cl9 (v_nw C 22 rfl) 4 ht4 (by decide) (by decide) (by decide) (by first | exact Nat.le_of_ble_eq_true rfl | (dsimp only; omega)) (by first | exact Nat.le_of_ble_eq_true rfl | (dsimp only; omega)) (FF_new _) (fun arr hq => ?_)
  have h1' : va_up f arr (some (.inl (cT, 40, .inr (.inr (.inr (.inr (fun _ => none))))))) po = some (.inr (5, [.null, .int 0, .int 0])) := by rw [va_up_other _ _ _ (fun z => by rw [← z, h1] at hq; cases hq.1)]; exact h1
  refine v_putF C (T := TX5) (ci := 5) (j := 0) (ty := (.array (.object "FieldScribe$Text"))) dX5_init_10 wiX5_init_X5 tyX5 tyX5_ok nmX5 rfl (by decide) wfX5_init_11 (fun _ h => h) rfl hm rfl rfl (rfl) (rfl) (FF_put h1' (Nat.le_of_ble_eq_true rfl)) ?_
  refine v_iconst C dX5_init_13 (v := 0) (by decide) ?_
  refine v_istore_n C dX5_init_14 rfl (by decide) (lv' := [(1, _), (0, _)]) rfl ?_
  obtain ⟨f0, hf0⟩ : ∃ f0, f0 = va_up (va_up f arr (some (.inl (cT, 40, .inr (.inr (.inr (.inr (fun _ => none)))))))) po (some (.inr (5, [.ref arr, .int 0, .int 0]))) := ⟨_, rfl⟩
  obtain ⟨T0, hT0⟩ : ∃ T0, T0 = T := ⟨_, rfl⟩
  refine v_x (x' := (f0, T0)) (fun H hP => by rw [hf0, hT0]; exact hP) ?_
  have hoa : po ≠ arr := fun z => by rw [← z] at hq; rw [h1] at hq; cases hq.1
  have ho : f0 po = some (.inr (5, [.ref arr, .int 0, .int 0])) := by rw [hf0]; exact va_up_same _ _ _
  have hA0 : f0 arr = some (.inl (cT, 40, .inr (.inr (.inr (.inr (fun _ => none)))))) := by rw [hf0]; rw [va_up_other _ _ _ (Ne.symm hoa), va_up_same]
  obtain ⟨f2, T2, i, q, rf, hi, hin, e1, e2, hI⟩ : ∃ (f2 : Nat → Option va_E) (T2 : Nat → Option (List Int32)) (i : Nat) (q : Nat → Nat) (rf : Nat → Option Nat), i = 0 ∧ i ≤ 40 ∧ f2 = f0 ∧ T2 = T0 ∧ txA f0 T0 f2 T2 arr cT 40 i q rf := ⟨f0, T0, 0, fun _ => 0, _, rfl, by decide, rfl, rfl, txA_0 hA0 _⟩
  refine v_x (x' := (f2, T2)) (fun H hP => by rw [e1, e2]; exact hP) ?_
  refine v_lv (lv' := [(1, .int (nI i)), (0, .ref po)]) (by rw [hi]; rfl) ?_
  refine v_kn (k' := 1 + 2 * i) (n' := 40 + 62 * i) (by first | omega | (dsimp only; omega)) (by first | omega | (dsimp only; omega)) ?_
  clear hi e1 e2
  induction hd : (40 - i) using Nat.strongRecOn generalizing i f2 T2 q rf with | _ d ih =>
    have ho2 : f2 po = some (.inr (5, [.ref arr, .int 0, .int 0])) := by rw [hI.1, va_up_other _ _ _ hoa]; exact ho
    have hA2 : f2 arr = some (.inl (cT, 40, .inr (.inr (.inr (.inr rf))))) := by rw [hI.1, va_up_same]
    refine v_iload_n C dX5_init_15 (j := 0) rfl rfl ?_
    refine v_aload_n C dX5_init_16 (j := 1) rfl rfl ?_
    refine v_get C (T := TX5) (ci := 5) (j := 0) dX5_init_17 wiX5_init_X5 rfl (by decide) wfX5_init_11 (fun _ h => h) (FF_get ho2 rfl) ?_
    refine v_alen C (v := nI 40) dX5_init_20 4 ht4 (FF_arr hA2) rfl ?_
    refine v_icmp_ge C 43 dX5_init_21 (by decide) (fun c1 => ?_) (fun c1 => ?_)
    · skip
      have c2 : i = 40 := by have := le_of (a := 40) c1 (by decide) (by omega); omega
      subst c2
      exact v_return C dX5_init_43 hr (by dsimp only; omega) (by dsimp only; omega) (⟨arr, q, _, _, rfl, ho2, ⟨⟨rf, hA2, fun k hk => (hI.2.1 k hk).1⟩, fun k hk => ⟨(hI.2.1 k hk).2.1, by rw [← hT0]; exact (hI.2.1 k hk).2.2⟩, hI.2.2.1⟩, hq.1, ⟨fun p p1 p2 => by rw [hI.1, va_up_other _ _ _ (fun z => p2 (by rw [z]; exact hq.1)), hf0]; rw [va_up_other _ _ _ p1, va_up_other _ _ _ (fun z => p2 (by rw [z]; exact hq.1))], fun p p2 => by rw [hI.2.2.2 p (fun k hk z => p2 (by rw [← hT0, z]; exact (hI.2.1 k hk).2.2)), hT0]⟩⟩)
    · skip
      have c2 : i < 40 := lt_ofn (a := 40) c1 (by decide) (by omega)
      refine v_aload_n C dX5_init_24 (j := 1) rfl rfl ?_
      refine v_get C (T := TX5) (ci := 5) (j := 0) dX5_init_25 wiX5_init_X5 rfl (by decide) wfX5_init_11 (fun _ h => h) (FF_get ho2 rfl) ?_
      refine v_iload_n C dX5_init_28 (j := 0) rfl rfl ?_
      refine v_new C (T := TX10) (ci := 10) dX5_init_29 wiX5_init_X10 tyX10 tyX10_ok wwX5_init_cl9 wwX5_init_isX10 wwX5_init_inX10 rfl (by decide) (by first | exact Nat.le_of_ble_eq_true rfl | (dsimp only; omega)) (by first | exact Nat.le_of_ble_eq_true rfl | (dsimp only; omega)) (FF_new txN) (fun p hp => ?_)
      refine v_dup C dX5_init_32 rfl ?_
      refine v_cv (v_runIN C (k_tinit ht hp.1) ⟨va_cnB 0 C.1.2.2.2.2 gX5_init_X10_init_n17 rfl rfl rfl (v_nest C 6 rfl) (C.1.2.2.2.2 _ wwX5_init_in_X10_init) (by decide +kernel) ⟨Nat.le_of_ble_eq_true rfl, Nat.le_of_ble_eq_true rfl⟩, rfl, C.1.2.2.2.2 _ wwX5_init_st_X10_init⟩ rfl dX5_init_33 (rest := [_, _, _]) (Nat.le_of_ble_eq_true rfl) rfl ⟨(by first | exact Nat.le_of_ble_eq_true rfl | (dsimp only; omega)), (by first | exact Nat.le_of_ble_eq_true rfl | (dsimp only; omega))⟩) (fun x' hx' => ?_)
      subst hx'
      refine v_aast C dX5_init_36 (r := (RX10, TX10, 2)) (ci := 10) 4 ht4 rfl (FF_txt (va_up_same _ _ _)) (vp_in_nI (by omega) (by decide)) (FF_arrset hA2) ?_
      rw [nI_clamp (by omega)]
      refine v_iinc C dX5_init_37 (j := 0) (v := _ + 1) rfl rfl (by decide) (lv' := [(1, _), (0, _)]) rfl ?_
      refine v_goto C 15 dX5_init_40 (by decide) ?_
      rw [nI_1]
      refine v_kn (k' := 1 + 2 * (i + 1)) (n' := 40 + 62 * (i + 1)) (by dsimp only; omega) (by dsimp only; omega) ?_
      exact ih (40 - (i + 1)) (by omega) _ _ (i + 1) _ _ (by omega) (txA_step hI hp.2) rfl
set_option maxRecDepth 100000 in
set_option maxHeartbeats 4000000 in
theorem k_pginit (ht : tys[0]? = some (cC, .char)) (ht4 : tys[4]? = some (cT, .object RX10)) {pg : Nat} (h1 : f pg = some (.inr (4, [.null, .null, .int 0, .int 0, .int 0]))) : ct D tys z0 A (picF D cC A) l yX4_init wsX4_init ({ frames := 2, cells := 27, slots := 818, locals := 44 } : Room) [.ref pg] (f, T) (qV (picF D cC A) A (fun x => ∃ wh arr q f' T', x = (f', T') ∧ f' pg = some (.inr (4, [.ref wh, .ref arr, .int 32, .int 0, .int 0])) ∧ txR f' T T' cT arr 12 q ∧ f arr = none ∧ extO f f' T T' pg ∧ T wh = none ∧ T' wh = some [] ∧ ∀ k, k < 12 → q k ≠ wh)) := by
  refine ct_of RX4 (by decide +kernel) rfl rfl (Nat.le_of_ble_eq_true rfl) ?_
  intro p e s m below meth c C hr hm
  refine v_lv (lv' := [(0, _)]) rfl ?_
  refine v_aload_n C dX4_init_0 (j := 0) rfl rfl ?_
  refine v_objInit C dX4_init_1 wwX4_init_oi3 wwX4_init_oim wwX4_init_oic (Nat.le_of_ble_eq_true rfl) (Nat.le_of_ble_eq_true rfl) ?_
  refine v_aload_n C dX4_init_4 (j := 0) rfl rfl ?_
  refine v_new C (T := TX10) (ci := 10) dX4_init_5 wiX4_init_X10 tyX10 tyX10_ok wwX4_init_cl9 wwX4_init_isX10 wwX4_init_inX10 rfl (by decide) (by first | exact Nat.le_of_ble_eq_true rfl | (dsimp only; omega)) (by first | exact Nat.le_of_ble_eq_true rfl | (dsimp only; omega)) (FF_new txN) (fun wh hw => ?_)
  refine v_dup C dX4_init_8 rfl ?_
  refine v_cv (v_runIN C (k_tinit ht hw.1) ⟨va_cnB 0 C.1.2.2.2.2 gX4_init_X10_init_n11 rfl rfl rfl (v_nest C 5 rfl) (C.1.2.2.2.2 _ wwX4_init_in_X10_init) (by decide +kernel) ⟨Nat.le_of_ble_eq_true rfl, Nat.le_of_ble_eq_true rfl⟩, rfl, C.1.2.2.2.2 _ wwX4_init_st_X10_init⟩ rfl dX4_init_9 (rest := [_, _]) (Nat.le_of_ble_eq_true rfl) rfl ⟨(by first | exact Nat.le_of_ble_eq_true rfl | (dsimp only; omega)), (by first | exact Nat.le_of_ble_eq_true rfl | (dsimp only; omega))⟩) (fun x' hx' => ?_)
  subst hx'
  refine v_putF C (T := TX4) (ci := 4) (j := 0) (ty := (.object "FieldScribe$Text")) dX4_init_12 wiX4_init_X4 tyX4 tyX4_ok nmX4 rfl (by decide) wfX4_init_12 (fun _ h => h) rfl hm rfl rfl (rfl) (rfl) (FF_put h1 (Nat.le_of_ble_eq_true rfl)) ?_
  refine v_aload_n C dX4_init_15 (j := 0) rfl rfl ?_
  refine v_bipush C dX4_init_16 (v := 12) (by decide) ?_
  refine v_newq C (N := 12) dX4_init_18 wwX4_init_cl9 (v_nw C 22 rfl) 4 ht4 (by decide) (by decide) (by decide) (by first | exact Nat.le_of_ble_eq_true rfl | (dsimp only; omega)) (by first | exact Nat.le_of_ble_eq_true rfl | (dsimp only; omega)) (FF_new _) (fun arr hq => ?_)
  have hpa : pg ≠ arr := fun z => by rw [← z, va_up_same] at hq; cases hq.1
  refine v_putF C (T := TX4) (ci := 4) (j := 1) (ty := (.array (.object "FieldScribe$Text"))) dX4_init_21 wiX4_init_X4 tyX4 tyX4_ok nmX4 rfl (by decide) wfX4_init_18 (fun _ h => h) rfl hm rfl rfl (rfl) (rfl) (FF_put (show va_up (va_up f pg (some (.inr (4, [.ref wh, .null, .int 0, .int 0, .int 0])))) arr (some (.inl (cT, 12, .inr (.inr (.inr (.inr (fun _ => none))))))) pg = some (.inr (4, [.ref wh, .null, .int 0, .int 0, .int 0])) by rw [va_up_other _ _ _ hpa, va_up_same]) (Nat.le_of_ble_eq_true rfl)) ?_
  refine v_aload_n C dX4_init_24 (j := 0) rfl rfl ?_
  refine v_bipush C dX4_init_25 (v := 32) (by decide) ?_
  refine v_put C (T := TX4) (ci := 4) (j := 2) (ty := .char) dX4_init_27 wiX4_init_X4 tyX4 tyX4_ok nmX4 rfl (by decide) wfX4_init_22 (fun _ h => h) rfl rfl (rfl) (rfl) (FF_put (va_up_same _ _ _) (Nat.le_of_ble_eq_true rfl)) ?_
  refine v_iconst C dX4_init_30 (v := 0) (by decide) ?_
  refine v_istore_n C dX4_init_31 rfl (by decide) (lv' := [(1, _), (0, _)]) rfl ?_
  obtain ⟨f0, hf0⟩ : ∃ f0, f0 = va_up (va_up (va_up (va_up f pg (some (.inr (4, [.ref wh, .null, .int 0, .int 0, .int 0])))) arr (some (.inl (cT, 12, .inr (.inr (.inr (.inr (fun _ => none)))))))) pg (some (.inr (4, [.ref wh, .ref arr, .int 0, .int 0, .int 0])))) pg (some (.inr (4, [.ref wh, .ref arr, .int 32, .int 0, .int 0]))) := ⟨_, rfl⟩
  obtain ⟨T0, hT0⟩ : ∃ T0, T0 = va_up T wh (some []) := ⟨_, rfl⟩
  refine v_x (x' := (f0, T0)) (fun H hP => by rw [hf0, hT0]; exact hP) ?_
  have hoa := hpa
  have hqf : f arr = none := by have := hq.1; rw [va_up_other _ _ _ (Ne.symm hpa)] at this; exact this
  have ho : f0 pg = some (.inr (4, [.ref wh, .ref arr, .int 32, .int 0, .int 0])) := by rw [hf0]; exact va_up_same _ _ _
  have hA0 : f0 arr = some (.inl (cT, 12, .inr (.inr (.inr (.inr (fun _ => none)))))) := by rw [hf0]; rw [va_up_other _ _ _ (Ne.symm hoa), va_up_other _ _ _ (Ne.symm hoa), va_up_same]
  obtain ⟨f2, T2, i, q, rf, hi, hin, e1, e2, hI⟩ : ∃ (f2 : Nat → Option va_E) (T2 : Nat → Option (List Int32)) (i : Nat) (q : Nat → Nat) (rf : Nat → Option Nat), i = 0 ∧ i ≤ 12 ∧ f2 = f0 ∧ T2 = T0 ∧ txA f0 T0 f2 T2 arr cT 12 i q rf := ⟨f0, T0, 0, fun _ => 0, _, rfl, by decide, rfl, rfl, txA_0 hA0 _⟩
  refine v_x (x' := (f2, T2)) (fun H hP => by rw [e1, e2]; exact hP) ?_
  refine v_lv (lv' := [(1, .int (nI i)), (0, .ref pg)]) (by rw [hi]; rfl) ?_
  refine v_kn (k' := 3 + 2 * i) (n' := 74 + 62 * i) (by first | omega | (dsimp only; omega)) (by first | omega | (dsimp only; omega)) ?_
  clear hi e1 e2
  induction hd : (12 - i) using Nat.strongRecOn generalizing i f2 T2 q rf with | _ d ih =>
    have ho2 : f2 pg = some (.inr (4, [.ref wh, .ref arr, .int 32, .int 0, .int 0])) := by rw [hI.1, va_up_other _ _ _ hoa]; exact ho
    have hA2 : f2 arr = some (.inl (cT, 12, .inr (.inr (.inr (.inr rf))))) := by rw [hI.1, va_up_same]
    refine v_iload_n C dX4_init_32 (j := 0) rfl rfl ?_
    refine v_aload_n C dX4_init_33 (j := 1) rfl rfl ?_
    refine v_get C (T := TX4) (ci := 4) (j := 1) dX4_init_34 wiX4_init_X4 rfl (by decide) wfX4_init_18 (fun _ h => h) (FF_get ho2 rfl) ?_
    refine v_alen C (v := nI 12) dX4_init_37 4 ht4 (FF_arr hA2) rfl ?_
    refine v_icmp_ge C 60 dX4_init_38 (by decide) (fun c1 => ?_) (fun c1 => ?_)
    · skip
      have c2 : i = 12 := by have := le_of (a := 12) c1 (by decide) (by omega); omega
      subst c2
      exact v_return C dX4_init_60 hr (by dsimp only; omega) (by dsimp only; omega) (⟨wh, arr, q, _, _, rfl, ho2, ⟨⟨rf, hA2, fun k hk => (hI.2.1 k hk).1⟩, fun k hk => ⟨(hI.2.1 k hk).2.1, by have h9 := (hI.2.1 k hk).2.2; rw [hT0] at h9; by_cases hz9 : q k = wh; rw [hz9, va_up_same] at h9; cases h9; rw [va_up_other _ _ _ hz9] at h9; exact h9⟩, hI.2.2.1⟩, hqf, ⟨fun p p1 p2 => by rw [hI.1, va_up_other _ _ _ (fun z => p2 (by rw [z]; exact hqf)), hf0]; rw [va_up_other _ _ _ p1, va_up_other _ _ _ p1, va_up_other _ _ _ (fun z => p2 (by rw [z]; exact hqf)), va_up_other _ _ _ p1], fun p p2 => by rw [hI.2.2.2 p (fun k hk z => by have h9 := (hI.2.1 k hk).2.2; rw [hT0, ← z, va_up_other _ _ _ (fun y => p2 (by rw [y]; exact hw.2))] at h9; exact p2 h9), hT0, va_up_other _ _ _ (fun y => p2 (by rw [y]; exact hw.2))]⟩, hw.2, by rw [hI.2.2.2 wh (fun k hk z => by have h9 := (hI.2.1 k hk).2.2; rw [hT0, ← z, va_up_same] at h9; cases h9), hT0, va_up_same], fun k hk z => by have h9 := (hI.2.1 k hk).2.2; rw [hT0, z, va_up_same] at h9; cases h9⟩)
    · skip
      have c2 : i < 12 := lt_ofn (a := 12) c1 (by decide) (by omega)
      refine v_aload_n C dX4_init_41 (j := 1) rfl rfl ?_
      refine v_get C (T := TX4) (ci := 4) (j := 1) dX4_init_42 wiX4_init_X4 rfl (by decide) wfX4_init_18 (fun _ h => h) (FF_get ho2 rfl) ?_
      refine v_iload_n C dX4_init_45 (j := 0) rfl rfl ?_
      refine v_new C (T := TX10) (ci := 10) dX4_init_46 wiX4_init_X10 tyX10 tyX10_ok wwX4_init_cl9 wwX4_init_isX10 wwX4_init_inX10 rfl (by decide) (by first | exact Nat.le_of_ble_eq_true rfl | (dsimp only; omega)) (by first | exact Nat.le_of_ble_eq_true rfl | (dsimp only; omega)) (FF_new txN) (fun p hp => ?_)
      refine v_dup C dX4_init_49 rfl ?_
      refine v_cv (v_runIN C (k_tinit ht hp.1) ⟨va_cnB 0 C.1.2.2.2.2 gX4_init_X10_init_n11 rfl rfl rfl (v_nest C 5 rfl) (C.1.2.2.2.2 _ wwX4_init_in_X10_init) (by decide +kernel) ⟨Nat.le_of_ble_eq_true rfl, Nat.le_of_ble_eq_true rfl⟩, rfl, C.1.2.2.2.2 _ wwX4_init_st_X10_init⟩ rfl dX4_init_50 (rest := [_, _, _]) (Nat.le_of_ble_eq_true rfl) rfl ⟨(by first | exact Nat.le_of_ble_eq_true rfl | (dsimp only; omega)), (by first | exact Nat.le_of_ble_eq_true rfl | (dsimp only; omega))⟩) (fun x' hx' => ?_)
      subst hx'
      refine v_aast C dX4_init_53 (r := (RX10, TX10, 2)) (ci := 10) 4 ht4 rfl (FF_txt (va_up_same _ _ _)) (vp_in_nI (by omega) (by decide)) (FF_arrset hA2) ?_
      rw [nI_clamp (by omega)]
      refine v_iinc C dX4_init_54 (j := 0) (v := _ + 1) rfl rfl (by decide) (lv' := [(1, _), (0, _)]) rfl ?_
      refine v_goto C 32 dX4_init_57 (by decide) ?_
      rw [nI_1]
      refine v_kn (k' := 3 + 2 * (i + 1)) (n' := 74 + 62 * (i + 1)) (by dsimp only; omega) (by dsimp only; omega) ?_
      exact ih (12 - (i + 1)) (by omega) _ _ (i + 1) _ _ (by omega) (txA_step hI hp.2) rfl
end MA
