/-! ===== the table made ===== -/
theorem wwX9_init_oi3 : Cond.methodLink RX9 3 Lib.objectInit ∈ wsX9_init := by decide +kernel
theorem wwX9_init_oim : Cond.instanceMethod Lib.objectInit ∈ wsX9_init := by decide +kernel
theorem wwX9_init_oic : Cond.code Lib.objectInit ⟨#[0xb1]⟩ 1 none ∈ wsX9_init := by decide +kernel
theorem wwX9_init_cl9 : Cond.classLink RX9 9 "FieldScribe$Row" ∈ wsX9_init := by decide +kernel
theorem wfX9_init_11 : Cond.fieldLink RX9 11 "FieldScribe$Table" (TX9 0).2.1 (TX9 0).2.2.1 ∈ wsX9_init := by decide +kernel
theorem wiX9_init_X9 : ∀ w ∈ u_ws RX9 TX9 2, w ∈ wsX9_init := by decide +kernel
theorem wiX9_init_X6 : ∀ w ∈ u_ws RX6 TX6 2, w ∈ wsX9_init := by decide +kernel
theorem wwX9_init_isX6 : Cond.instantiable RX6 2 ∈ wsX9_init := by decide +kernel
theorem wwX9_init_inX6 : Cond.initialized RX6 ∈ wsX9_init := by decide +kernel
theorem wwX9_init_in_X6_init : Cond.initialized yX6_init.cls ∈ wsX9_init := by decide +kernel
theorem wwX9_init_st_X6_init : Cond.instanceMethod yX6_init ∈ wsX9_init := by decide +kernel
def rwA (f0 : Nat → Option va_E) (T0 : Nat → Option (List Int32)) (f : Nat → Option va_E) (T : Nat → Option (List Int32)) (al : Nat) (cR : ClassId) (i : Nat) (ro na : Nat → Nat) (rf : Nat → Option Nat) : Prop :=
  f al = some (.inl (cR, 20, .inr (.inr (.inr (.inr rf))))) ∧ (∀ k, k < i → rf k = some (ro k) ∧ f (ro k) = rwE (na (ro k)) 0 ∧ T (na (ro k)) = some [] ∧ T0 (na (ro k)) = none ∧ f0 (ro k) = none) ∧ (∀ a b, a < i → b < i → na (ro a) = na (ro b) → a = b) ∧ (∀ p, p ≠ al → f0 p ≠ none → f p = f0 p) ∧ ∀ p, T0 p ≠ none → T p = T0 p
theorem rwA_step {f0 : Nat → Option va_E} {T0 : Nat → Option (List Int32)} {f : Nat → Option va_E} {T : Nat → Option (List Int32)} {al : Nat} {cR : ClassId} {i : Nat} {ro na : Nat → Nat} {rf : Nat → Option Nat} (h : rwA f0 T0 f T al cR i ro na rf) (ha0 : f0 al ≠ none) {r n : Nat} (hr : f r = none) (hn : T n = none) : rwA f0 T0 (va_up (va_up f r (rwE n 0)) al (some (.inl (cR, 20, .inr (.inr (.inr (.inr (va_up rf i (some r))))))))) (va_up T n (some [])) al cR (i + 1) (va_up ro i r) (va_up na r n) (va_up rf i (some r)) := by
  obtain ⟨h1, h2, h3, h4, h5⟩ := h
  have hra : r ≠ al := fun z => by rw [z, h1] at hr; cases hr
  have hrr : ∀ k, k < i → ro k ≠ r := fun k hk z => by have := (h2 k hk).2.1; rw [z, hr] at this; cases this
  have hnn : ∀ k, k < i → na (ro k) ≠ n := fun k hk z => by have := (h2 k hk).2.2.1; rw [z, hn] at this; cases this
  have hral : ∀ k, k < i → ro k ≠ al := fun k hk z => ha0 (by rw [← z]; exact (h2 k hk).2.2.2.2)
  refine ⟨va_up_same _ _ _, fun k hk => ?_, fun a b ha hb hab => ?_, fun p p1 p2 => ?_, fun p p2 => ?_⟩
  · by_cases hki : k = i
    · subst hki
      rw [va_up_same, va_up_same, va_up_same, va_up_other _ _ _ hra, va_up_same, va_up_same]
      refine ⟨rfl, rfl, rfl, ?_, ?_⟩
      · cases h0 : T0 n with
        | none => rfl
        | some s => have := h5 n (by rw [h0]; intro z; cases z); rw [hn, h0] at this; cases this
      · cases h0 : f0 r with
        | none => rfl
        | some s => have := h4 r hra (by rw [h0]; intro z; cases z); rw [hr, h0] at this; cases this
    · have hk2 : k < i := by omega
      rw [va_up_other _ _ _ hki, va_up_other _ _ _ hki, va_up_other _ _ _ (hrr k hk2), va_up_other _ _ _ (hral k hk2), va_up_other _ _ _ (hrr k hk2), va_up_other _ _ _ (hnn k hk2)]
      exact h2 k hk2
  · have hq : ∀ k, k < i → va_up na r n (va_up ro i r k) = na (ro k) := fun k hk => by rw [va_up_other ro _ _ (by omega), va_up_other na _ _ (hrr k hk)]
    have hi : va_up na r n (va_up ro i r i) = n := by rw [va_up_same ro, va_up_same]
    by_cases ha1 : a = i
    · by_cases hb1 : b = i
      · omega
      · subst ha1; rw [hi, hq b (by omega)] at hab; exact absurd hab.symm (hnn b (by omega))
    · by_cases hb1 : b = i
      · subst hb1; rw [hi, hq a (by omega)] at hab; exact absurd hab (hnn a (by omega))
      · rw [hq a (by omega), hq b (by omega)] at hab; exact h3 a b (by omega) (by omega) hab
  · have hpr : p ≠ r := fun z => by have := h4 p p1 p2; rw [z, hr] at this; exact p2 (by rw [z]; exact this.symm)
    rw [va_up_other _ _ _ p1, va_up_other _ _ _ hpr]; exact h4 p p1 p2
  · have hpn : p ≠ n := fun z => by have := h5 p p2; rw [z, hn] at this; exact p2 (by rw [z]; exact this.symm)
    rw [va_up_other _ _ _ hpn]; exact h5 p p2
section MB
variable {l : Launch} {D : va_G} {tys : List (ClassId × FieldType)} {z0 : Nat} {A : Nat → Prop} {cC cT cR : ClassId} {f : Nat → Option va_E} {T : Nat → Option (List Int32)}
set_option maxRecDepth 100000 in
set_option maxHeartbeats 4000000 in
theorem k_tbinit (ht : tys[0]? = some (cC, .char)) (ht3 : tys[3]? = some (cR, .object RX6)) {tb : Nat} (h1 : f tb = some (.inr (9, [.null, .int 0]))) : ct D tys z0 A (picF D cC A) l yX9_init wsX9_init ({ frames := 3, cells := 61, slots := 1300, locals := 64 } : Room) [.ref tb] (f, T) (qV (picF D cC A) A (fun x => ∃ al ro na f' T', x = (f', T') ∧ f' tb = tbE al 0 ∧ tbA f' cR al ro ∧ tbD ro na ∧ tbT f' T' ro na [] ∧ (∀ k, k < 20 → T (na (ro k)) = none ∧ f (ro k) = none) ∧ f al = none ∧ extO f f' T T' tb)) := by
  refine ct_of RX9 (by decide +kernel) rfl rfl (Nat.le_of_ble_eq_true rfl) ?_
  intro p e s m below meth c C hr hm
  refine v_lv (lv' := [(0, _)]) rfl ?_
  refine v_aload_n C dX9_init_0 (j := 0) rfl rfl ?_
  refine v_objInit C dX9_init_1 wwX9_init_oi3 wwX9_init_oim wwX9_init_oic (Nat.le_of_ble_eq_true rfl) (Nat.le_of_ble_eq_true rfl) ?_
  refine v_aload_n C dX9_init_4 (j := 0) rfl rfl ?_
  refine v_bipush C dX9_init_5 (v := 20) (by decide) ?_
  refine v_newq C (N := 20) dX9_init_7 wwX9_init_cl9 (v_nw C 23 rfl) 3 ht3 (by decide) (by decide) (by decide) (by first | exact Nat.le_of_ble_eq_true rfl | (dsimp only; omega)) (by first | exact Nat.le_of_ble_eq_true rfl | (dsimp only; omega)) (FF_new _) (fun arr hq => ?_)
  have hoa : tb ≠ arr := fun z => by rw [← z, h1] at hq; cases hq.1
  have h1' : va_up f arr (some (.inl (cR, 20, .inr (.inr (.inr (.inr (fun _ => none))))))) tb = some (.inr (9, [.null, .int 0])) := by rw [va_up_other _ _ _ hoa]; exact h1
  refine v_putF C (T := TX9) (ci := 9) (j := 0) (ty := (.array (.object "FieldScribe$Row"))) dX9_init_10 wiX9_init_X9 tyX9 tyX9_ok nmX9 rfl (by decide) wfX9_init_11 (fun _ h => h) rfl hm rfl rfl (rfl) (rfl) (FF_put h1' (Nat.le_of_ble_eq_true rfl)) ?_
  refine v_iconst C dX9_init_13 (v := 0) (by decide) ?_
  refine v_istore_n C dX9_init_14 rfl (by decide) (lv' := [(1, _), (0, _)]) rfl ?_
  obtain ⟨f0, hf0⟩ : ∃ f0, f0 = va_up (va_up f arr (some (.inl (cR, 20, .inr (.inr (.inr (.inr (fun _ => none)))))))) tb (tbE arr 0) := ⟨_, rfl⟩
  refine v_x (x' := (f0, T)) (fun H hP => by rw [hf0]; exact hP) ?_
  have ho : f0 tb = tbE arr 0 := by rw [hf0, va_up_same]
  have hA0 : f0 arr = some (.inl (cR, 20, .inr (.inr (.inr (.inr (fun _ => none)))))) := by rw [hf0, va_up_other _ _ _ (Ne.symm hoa), va_up_same]
  obtain ⟨f2, T2, i, ro, na, rf, hi, hin, e1, e2, hI⟩ : ∃ (f2 : Nat → Option va_E) (T2 : Nat → Option (List Int32)) (i : Nat) (ro na : Nat → Nat) (rf : Nat → Option Nat), i = 0 ∧ i ≤ 20 ∧ f2 = f0 ∧ T2 = T ∧ rwA f0 T f2 T2 arr cR i ro na rf := ⟨f0, T, 0, fun _ => 0, fun _ => 0, _, rfl, by decide, rfl, rfl, hA0, fun k hk => absurd hk (Nat.not_lt_zero k), fun a b ha => absurd ha (Nat.not_lt_zero a), fun _ _ _ => rfl, fun _ _ => rfl⟩
  refine v_x (x' := (f2, T2)) (fun H hP => by rw [e1, e2]; exact hP) ?_
  refine v_lv (lv' := [(1, .int (nI i)), (0, .ref tb)]) (by rw [hi]; rfl) ?_
  refine v_kn (k' := 1 + 3 * i) (n' := 20 + 64 * i) (by first | omega | (dsimp only; omega)) (by first | omega | (dsimp only; omega)) ?_
  clear hi e1 e2
  induction hd : (20 - i) using Nat.strongRecOn generalizing i f2 T2 ro na rf with | _ d ih =>
    have ho2 : f2 tb = tbE arr 0 := by rw [hI.2.2.2.1 tb hoa (by rw [ho]; intro z; cases z)]; exact ho
    have hA2 := hI.1
    refine v_iload_n C dX9_init_15 (j := 0) rfl rfl ?_
    refine v_aload_n C dX9_init_16 (j := 1) rfl rfl ?_
    refine v_get C (T := TX9) (ci := 9) (j := 0) dX9_init_17 wiX9_init_X9 rfl (by decide) wfX9_init_11 (fun _ h => h) (FF_get ho2 rfl) ?_
    refine v_alen C (v := nI 20) dX9_init_20 3 ht3 (FF_arr hA2) rfl ?_
    refine v_icmp_ge C 43 dX9_init_21 (by decide) (fun c1 => ?_) (fun c1 => ?_)
    · skip
      have c2 : i = 20 := by have := le_of (a := 20) c1 (by decide) (by omega); omega
      subst c2
      have w1 : ∀ k, k < 20 → f (ro k) = none := fun k hk => by
          have h9 := (hI.2.1 k hk).2.2.2.2
          rw [hf0] at h9
          have z1 : ro k ≠ tb := fun z => by rw [z, va_up_same] at h9; cases h9
          have z2 : ro k ≠ arr := fun z => by rw [va_up_other _ _ _ z1, z, va_up_same] at h9; cases h9
          rw [va_up_other _ _ _ z1, va_up_other _ _ _ z2] at h9
          exact h9
      have w2 : ∀ p, p ≠ tb → f p ≠ none → f2 p = f p := fun p p1 p2 => by
          have p3 : p ≠ arr := fun z => p2 (by rw [z]; exact hq.1)
          have h9 : f0 p = f p := by rw [hf0, va_up_other _ _ _ p1, va_up_other _ _ _ p3]
          rw [hI.2.2.2.1 p p3 (by rw [h9]; exact p2), h9]
      exact v_return C dX9_init_43 hr (by dsimp only; omega) (by dsimp only; omega) (⟨arr, ro, na, _, _, rfl, ho2, ⟨rf, hA2, fun k hk => (hI.2.1 k hk).1⟩, hI.2.2.1, ⟨by simp, fun k hk => ⟨_, _, (hI.2.1 k hk).2.2.1, (hI.2.1 k hk).2.1⟩, fun j hj => absurd hj (Nat.not_lt_zero j)⟩, fun k hk => ⟨(hI.2.1 k hk).2.2.2.1, w1 k hk⟩, hq.1, ⟨w2, fun p p2 => hI.2.2.2.2 p p2⟩⟩)
    · skip
      have c2 : i < 20 := lt_ofn (a := 20) c1 (by decide) (by omega)
      refine v_aload_n C dX9_init_24 (j := 1) rfl rfl ?_
      refine v_get C (T := TX9) (ci := 9) (j := 0) dX9_init_25 wiX9_init_X9 rfl (by decide) wfX9_init_11 (fun _ h => h) (FF_get ho2 rfl) ?_
      refine v_iload_n C dX9_init_28 (j := 0) rfl rfl ?_
      refine v_new C (T := TX6) (ci := 6) dX9_init_29 wiX9_init_X6 tyX6 tyX6_ok wwX9_init_cl9 wwX9_init_isX6 wwX9_init_inX6 rfl (by decide) (by first | exact Nat.le_of_ble_eq_true rfl | (dsimp only; omega)) (by first | exact Nat.le_of_ble_eq_true rfl | (dsimp only; omega)) (FF_new (.inr (6, [.null, .int 0]))) (fun r hr => ?_)
      refine v_dup C dX9_init_32 rfl ?_
      refine v_cv (v_runIN C (k_rwinit ht (va_up_same _ _ _)) ⟨va_cnB 0 C.1.2.2.2.2 gX9_init_X6_init_n17 rfl rfl rfl (v_nest C 10 rfl) (C.1.2.2.2.2 _ wwX9_init_in_X6_init) (by decide +kernel) ⟨Nat.le_of_ble_eq_true rfl, Nat.le_of_ble_eq_true rfl⟩, rfl, C.1.2.2.2.2 _ wwX9_init_st_X6_init⟩ rfl dX9_init_33 (rest := [_, _, _]) (Nat.le_of_ble_eq_true rfl) rfl ⟨(by first | exact Nat.le_of_ble_eq_true rfl | (dsimp only; omega)), (by first | exact Nat.le_of_ble_eq_true rfl | (dsimp only; omega))⟩) (fun x' hx' => ?_)
      obtain ⟨n, hn1, hn2, rfl⟩ := hx'
      refine v_x (x' := (va_up f2 r (rwE n 0), va_up T2 n (some []))) (fun H hP => by rw [up_up] at hP; exact hP) ?_
      have hra : arr ≠ r := fun z => by rw [← z, hA2] at hr; cases hr.1
      refine v_aast C dX9_init_36 (r := (RX6, TX6, 2)) (ci := 6) 3 ht3 rfl (FF_get (va_up_same _ _ _) (k := 0) rfl).gC (vp_in_nI (by omega) (by decide)) (FF_arrset (by rw [va_up_other _ _ _ hra]; exact hA2)) ?_
      rw [nI_clamp (by omega)]
      refine v_iinc C dX9_init_37 (j := 0) (v := _ + 1) rfl rfl (by decide) (lv' := [(1, _), (0, _)]) rfl ?_
      refine v_goto C 15 dX9_init_40 (by decide) ?_
      rw [nI_1]
      refine v_kn (k' := 1 + 3 * (i + 1)) (n' := 20 + 64 * (i + 1)) (by dsimp only; omega) (by dsimp only; omega) ?_
      exact ih (20 - (i + 1)) (by omega) _ _ (i + 1) _ _ _ (by omega) (rwA_step hI (by rw [hA0]; intro z; cases z) hr.1 hn2) rfl
end MB
