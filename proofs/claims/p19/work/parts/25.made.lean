/-! ===== new FieldScribe() ===== -/
theorem wwX11_init_oi3 : Cond.methodLink RX11 3 Lib.objectInit ∈ wsX11_init := by decide +kernel
theorem wwX11_init_oim : Cond.instanceMethod Lib.objectInit ∈ wsX11_init := by decide +kernel
theorem wwX11_init_oic : Cond.code Lib.objectInit ⟨#[0xb1]⟩ 1 none ∈ wsX11_init := by decide +kernel
theorem wiX11_init_Jx4a65c : ∀ w ∈ u_ws RJx4a65c TJx4a65c 3, w ∈ wsX11_init := by decide +kernel
theorem wwX11_init_cl9 : Cond.classLink RX11 9 RJx4a65c ∈ wsX11_init := by decide +kernel
theorem wwX11_init_isJx4a65c : Cond.instantiable RJx4a65c 3 ∈ wsX11_init := by decide +kernel
theorem wwX11_init_inJx4a65c : Cond.initialized RJx4a65c ∈ wsX11_init := by decide +kernel
theorem wwX11_init_in_Jx4a65c_init_da8c8 : Cond.initialized yJx4a65c_init_da8c8.cls ∈ wsX11_init := by decide +kernel
theorem wwX11_init_ml11 : Cond.methodLink RX11 11 yJx4a65c_init_da8c8 ∈ wsX11_init := by decide +kernel
theorem wwX11_init_im_Jx4a65c_init_da8c8 : Cond.instanceMethod yJx4a65c_init_da8c8 ∈ wsX11_init := by decide +kernel
theorem wfX11_init_12 : Cond.fieldLink RX11 12 "FieldScribe" (TX11 0).2.1 (TX11 0).2.2.1 ∈ wsX11_init := by decide +kernel
theorem wiX11_init_X11 : ∀ w ∈ u_ws RX11 TX11 9, w ∈ wsX11_init := by decide +kernel
theorem wiX11_init_X4 : ∀ w ∈ u_ws RX4 TX4 5, w ∈ wsX11_init := by decide +kernel
theorem wwX11_init_cl16 : Cond.classLink RX11 16 RX4 ∈ wsX11_init := by decide +kernel
theorem wwX11_init_isX4 : Cond.instantiable RX4 5 ∈ wsX11_init := by decide +kernel
theorem wwX11_init_inX4 : Cond.initialized RX4 ∈ wsX11_init := by decide +kernel
theorem wwX11_init_in_X4_init : Cond.initialized yX4_init.cls ∈ wsX11_init := by decide +kernel
theorem wwX11_init_ml18 : Cond.methodLink RX11 18 yX4_init ∈ wsX11_init := by decide +kernel
theorem wwX11_init_im_X4_init : Cond.instanceMethod yX4_init ∈ wsX11_init := by decide +kernel
theorem wfX11_init_19 : Cond.fieldLink RX11 19 "FieldScribe" (TX11 1).2.1 (TX11 1).2.2.1 ∈ wsX11_init := by decide +kernel
theorem wiX11_init_X9 : ∀ w ∈ u_ws RX9 TX9 2, w ∈ wsX11_init := by decide +kernel
theorem wwX11_init_cl23 : Cond.classLink RX11 23 RX9 ∈ wsX11_init := by decide +kernel
theorem wwX11_init_isX9 : Cond.instantiable RX9 2 ∈ wsX11_init := by decide +kernel
theorem wwX11_init_inX9 : Cond.initialized RX9 ∈ wsX11_init := by decide +kernel
theorem wwX11_init_in_X9_init : Cond.initialized yX9_init.cls ∈ wsX11_init := by decide +kernel
theorem wwX11_init_ml25 : Cond.methodLink RX11 25 yX9_init ∈ wsX11_init := by decide +kernel
theorem wwX11_init_im_X9_init : Cond.instanceMethod yX9_init ∈ wsX11_init := by decide +kernel
theorem wfX11_init_26 : Cond.fieldLink RX11 26 "FieldScribe" (TX11 2).2.1 (TX11 2).2.2.1 ∈ wsX11_init := by decide +kernel
theorem wiX11_init_X5 : ∀ w ∈ u_ws RX5 TX5 3, w ∈ wsX11_init := by decide +kernel
theorem wwX11_init_cl30 : Cond.classLink RX11 30 RX5 ∈ wsX11_init := by decide +kernel
theorem wwX11_init_isX5 : Cond.instantiable RX5 3 ∈ wsX11_init := by decide +kernel
theorem wwX11_init_inX5 : Cond.initialized RX5 ∈ wsX11_init := by decide +kernel
theorem wwX11_init_in_X5_init : Cond.initialized yX5_init.cls ∈ wsX11_init := by decide +kernel
theorem wwX11_init_ml32 : Cond.methodLink RX11 32 yX5_init ∈ wsX11_init := by decide +kernel
theorem wwX11_init_im_X5_init : Cond.instanceMethod yX5_init ∈ wsX11_init := by decide +kernel
theorem wfX11_init_33 : Cond.fieldLink RX11 33 "FieldScribe" (TX11 3).2.1 (TX11 3).2.2.1 ∈ wsX11_init := by decide +kernel
theorem wiX11_init_X8 : ∀ w ∈ u_ws RX8 TX8 1, w ∈ wsX11_init := by decide +kernel
theorem wwX11_init_cl37 : Cond.classLink RX11 37 RX8 ∈ wsX11_init := by decide +kernel
theorem wwX11_init_isX8 : Cond.instantiable RX8 1 ∈ wsX11_init := by decide +kernel
theorem wwX11_init_inX8 : Cond.initialized RX8 ∈ wsX11_init := by decide +kernel
theorem wwX11_init_in_X8_init : Cond.initialized yX8_init.cls ∈ wsX11_init := by decide +kernel
theorem wwX11_init_ml39 : Cond.methodLink RX11 39 yX8_init ∈ wsX11_init := by decide +kernel
theorem wwX11_init_im_X8_init : Cond.instanceMethod yX8_init ∈ wsX11_init := by decide +kernel
theorem wfX11_init_40 : Cond.fieldLink RX11 40 "FieldScribe" (TX11 4).2.1 (TX11 4).2.2.1 ∈ wsX11_init := by decide +kernel
theorem wiX11_init_X10 : ∀ w ∈ u_ws RX10 TX10 2, w ∈ wsX11_init := by decide +kernel
theorem wwX11_init_cl44 : Cond.classLink RX11 44 RX10 ∈ wsX11_init := by decide +kernel
theorem wwX11_init_isX10 : Cond.instantiable RX10 2 ∈ wsX11_init := by decide +kernel
theorem wwX11_init_inX10 : Cond.initialized RX10 ∈ wsX11_init := by decide +kernel
theorem wwX11_init_in_X10_init : Cond.initialized yX10_init.cls ∈ wsX11_init := by decide +kernel
theorem wwX11_init_st_X10_init : Cond.instanceMethod yX10_init ∈ wsX11_init := by decide +kernel
theorem wfX11_init_47 : Cond.fieldLink RX11 47 "FieldScribe" (TX11 5).2.1 (TX11 5).2.2.1 ∈ wsX11_init := by decide +kernel
theorem wfX11_init_51 : Cond.fieldLink RX11 51 "FieldScribe" (TX11 6).2.1 (TX11 6).2.2.1 ∈ wsX11_init := by decide +kernel
theorem extO.tr {f f' f'' : Nat → Option va_E} {T T' T'' : Nat → Option (List Int32)} {o : Nat} (h : extO f f' T T' o) (h2 : extO f' f'' T' T'' o) : extO f f'' T T'' o := ⟨fun p p1 p2 => by rw [h2.1 p p1 (by rw [h.1 p p1 p2]; exact p2)]; exact h.1 p p1 p2, fun p p2 => by rw [h2.2 p (by rw [h.2 p p2]; exact p2)]; exact h.2 p p2⟩
theorem extO_step {f f1 : Nat → Option va_E} {T T1 : Nat → Option (List Int32)} {o p0 : Nat} {e0 : va_E} (hn : f p0 = none) (h : extO (va_up f p0 (some e0)) f1 T T1 p0) (X : Option va_E) : extO f (va_up f1 o X) T T1 o := ⟨fun p p1 p2 => by
  have p3 : p ≠ p0 := fun z => p2 (by rw [z]; exact hn)
  rw [va_up_other _ _ _ p1, h.1 p p3 (by rw [va_up_other _ _ _ p3]; exact p2), va_up_other _ _ _ p3], h.2⟩
theorem extO_text {f : Nat → Option va_E} {T : Nat → Option (List Int32)} {o p0 : Nat} (hn : T p0 = none) (X : Option va_E) (s : List Int32) : extO f (va_up f o X) T (va_up T p0 (some s)) o := ⟨fun p p1 _ => va_up_other _ _ _ p1, fun p p2 => va_up_other _ _ _ (fun z => p2 (by rw [z]; exact hn))⟩
theorem extO.so {f f' : Nat → Option va_E} {T T' : Nat → Option (List Int32)} {o p : Nat} {e : va_E} (h : extO f f' T T' o) (hp : p ≠ o) (he : f p = some e) : f' p = some e := by rw [h.1 p hp (by rw [he]; intro z; cases z)]; exact he
theorem extO.te {f f' : Nat → Option va_E} {T T' : Nat → Option (List Int32)} {o p : Nat} {s : List Int32} (h : extO f f' T T' o) (he : T p = some s) : T' p = some s := by rw [h.2 p (by rw [he]; intro z; cases z)]; exact he
theorem isS {α : Type} (x : α) : (some x).isSome = true := rfl
section NF
variable {l : Launch} {D : va_G} {tys : List (ClassId × FieldType)} {z0 : Nat} {A : Nat → Prop} {cC cT cR cI cO : ClassId} {f : Nat → Option va_E} {T : Nat → Option (List Int32)}
abbrev fs9 (v : List Value) : va_E := .inr (11, v)
set_option maxRecDepth 100000 in
set_option maxHeartbeats 16000000 in
theorem k_fsinit (ht : tys[0]? = some (cC, .char)) (ht3 : tys[3]? = some (cR, .object RX6)) (ht4 : tys[4]? = some (cT, .object RX10)) {fs : Nat} (h1 : f fs = some (fs9 [.null, .null, .null, .null, .null, .null, .null, .int 0, .int 0])) : ct D tys z0 A (picF D cC A) l yX11_init wsX11_init ({ frames := 4, cells := 183, slots := 4902, locals := 85 } : Room) [.ref fs] (f, T) (qV (picF D cC A) A (fun x => ∃ a na lab lf f' T', x = (f', T') ∧ a 0 = fs ∧ wI f' T' cT cR a na lab 32 0 [] false ([], [], [], 0) ∧ labI a lab ∧ rI f' T' z0 cI cO lab lf (a 1) [])) := by
  refine ct_of RX11 (by decide +kernel) rfl rfl (Nat.le_of_ble_eq_true rfl) ?_
  intro p e s m below meth c C hr hm
  refine v_lv (lv' := [(0, _)]) rfl ?_
  refine v_aload_n C dX11_init_0 (j := 0) rfl rfl ?_
  refine v_objInit C dX11_init_1 wwX11_init_oi3 wwX11_init_oim wwX11_init_oic (Nat.le_of_ble_eq_true rfl) (Nat.le_of_ble_eq_true rfl) ?_
  refine v_aload_n C dX11_init_4 (j := 0) rfl rfl ?_
  refine v_new C (T := TJx4a65c) (ci := 0) dX11_init_5 wiX11_init_Jx4a65c tyJx4a65c tyJx4a65c_ok wwX11_init_cl9 wwX11_init_isJx4a65c wwX11_init_inJx4a65c rfl (by decide) (by first | exact Nat.le_of_ble_eq_true rfl | (dsimp only; omega)) (by first | exact Nat.le_of_ble_eq_true rfl | (dsimp only; omega)) (FF_new (.inr (0, [.int 0, .null, .int 0]))) (fun pr hpr => ?_)
  refine v_dup C dX11_init_8 rfl ?_
  refine v_cv (v_runI C (k_linit (va_up_same _ _ _)) (cwI 0 C.1.2.2.2.2 gX11_init_Jx4a65c_init_da8c8 rfl rfl rfl (C.1.2.2.2.2 _ wwX11_init_in_Jx4a65c_init_da8c8) (C.1.2.2.2.2 _ wwX11_init_ml11) (C.1.2.2.2.2 _ wwX11_init_im_Jx4a65c_init_da8c8) rfl (by decide +kernel) ⟨Nat.le_of_ble_eq_true rfl, Nat.le_of_ble_eq_true rfl⟩) rfl dX11_init_9 (rest := [_, _]) (Nat.le_of_ble_eq_true rfl) rfl ⟨(by first | exact Nat.le_of_ble_eq_true rfl | (dsimp only; omega)), (by first | exact Nat.le_of_ble_eq_true rfl | (dsimp only; omega))⟩) (fun x' hx' => ?_)
  subst hx'
  have dpr : fs ≠ pr := fun z => by rw [← z, h1] at hpr; cases hpr.1
  refine v_putF C (T := TX11) (ci := 11) (j := 0) (ty := (.object "java/util/ArrayList")) dX11_init_12 wiX11_init_X11 tyX11 tyX11_ok nmX11 rfl (by decide) wfX11_init_12 (fun _ h => h) rfl hm rfl rfl (rfl) (rfl) (FF_put (by rw [va_up_other _ _ _ dpr, va_up_other _ _ _ dpr]; exact h1) (Nat.le_of_ble_eq_true rfl)) ?_
  obtain ⟨f1, hf1⟩ : ∃ f1, f1 = va_up (va_up (va_up f pr (some (.inr (0, [.int 0, .null, .int 0])))) pr (alE 0 (some z0) 0)) fs (some (fs9 [.ref pr, .null, .null, .null, .null, .null, .null, .int 0, .int 0])) := ⟨_, rfl⟩
  refine v_x (x' := (f1, T)) (fun H hP => by rw [hf1]; exact hP) ?_
  have s1 : f1 fs = some (fs9 [.ref pr, .null, .null, .null, .null, .null, .null, .int 0, .int 0]) := by rw [hf1, va_up_same]
  have p1 : f1 pr = alE 0 (some z0) 0 := by rw [hf1, va_up_other _ _ _ (Ne.symm dpr), va_up_same]
  clear hf1
  refine v_aload_n C dX11_init_15 (j := 0) rfl rfl ?_
  refine v_new C (T := TX4) (ci := 4) dX11_init_16 wiX11_init_X4 tyX4 tyX4_ok wwX11_init_cl16 wwX11_init_isX4 wwX11_init_inX4 rfl (by decide) (by first | exact Nat.le_of_ble_eq_true rfl | (dsimp only; omega)) (by first | exact Nat.le_of_ble_eq_true rfl | (dsimp only; omega)) (FF_new (.inr (4, [.null, .null, .int 0, .int 0, .int 0]))) (fun pg hpg => ?_)
  refine v_dup C dX11_init_19 rfl ?_
  refine v_cv (v_runI C (k_pginit ht ht4 (va_up_same _ _ _)) (cwI 0 C.1.2.2.2.2 gX11_init_X4_init rfl rfl rfl (C.1.2.2.2.2 _ wwX11_init_in_X4_init) (C.1.2.2.2.2 _ wwX11_init_ml18) (C.1.2.2.2.2 _ wwX11_init_im_X4_init) rfl (by decide +kernel) ⟨Nat.le_of_ble_eq_true rfl, Nat.le_of_ble_eq_true rfl⟩) rfl dX11_init_20 (rest := [_, _]) (Nat.le_of_ble_eq_true rfl) rfl ⟨(by first | exact Nat.le_of_ble_eq_true rfl | (dsimp only; omega)), (by first | exact Nat.le_of_ble_eq_true rfl | (dsimp only; omega))⟩) (fun x' hx' => ?_)
  obtain ⟨wh, pa, pc, g1, T1, rfl, a1, a2, a3, a4, a5, a6, a7⟩ := hx'
  have dpg : fs ≠ pg := fun z => by rw [← z, s1] at hpg; cases hpg.1
  refine v_putF C (T := TX11) (ci := 11) (j := 1) (ty := (.object "FieldScribe$Page")) dX11_init_23 wiX11_init_X11 tyX11 tyX11_ok nmX11 rfl (by decide) wfX11_init_19 (fun _ h => h) rfl hm rfl rfl (rfl) (rfl) (FF_put (a4.so dpg (by rw [va_up_other _ _ _ dpg]; exact s1)) (Nat.le_of_ble_eq_true rfl)) ?_
  obtain ⟨f2, hf2⟩ : ∃ f2, f2 = va_up g1 fs (some (fs9 [.ref pr, .ref pg, .null, .null, .null, .null, .null, .int 0, .int 0])) := ⟨_, rfl⟩
  refine v_x (x' := (f2, T1)) (fun H hP => by rw [hf2]; exact hP) ?_
  have s2 : f2 fs = some (fs9 [.ref pr, .ref pg, .null, .null, .null, .null, .null, .int 0, .int 0]) := by rw [hf2, va_up_same]
  have x2 : extO f1 f2 T T1 fs := by rw [hf2]; exact extO_step hpg.1 a4 _
  have p2 : f2 pg = some (.inr (4, [.ref wh, .ref pa, .int 32, .int 0, .int 0])) := by rw [hf2, va_up_other _ _ _ (Ne.symm dpg)]; exact a1
  obtain ⟨⟨pf, a8, a9⟩, a10, a11⟩ := a2
  have dpa : pa ≠ fs := fun z => by rw [z, va_up_other _ _ _ dpg, s1] at a3; cases a3
  have p2a : f2 pa = some (.inl (cT, 12, .inr (.inr (.inr (.inr pf))))) := by rw [hf2, va_up_other _ _ _ dpa]; exact a8
  clear hf2
  refine v_aload_n C dX11_init_26 (j := 0) rfl rfl ?_
  refine v_new C (T := TX9) (ci := 9) dX11_init_27 wiX11_init_X9 tyX9 tyX9_ok wwX11_init_cl23 wwX11_init_isX9 wwX11_init_inX9 rfl (by decide) (by first | exact Nat.le_of_ble_eq_true rfl | (dsimp only; omega)) (by first | exact Nat.le_of_ble_eq_true rfl | (dsimp only; omega)) (FF_new (.inr (9, [.null, .int 0]))) (fun tb htb => ?_)
  refine v_dup C dX11_init_30 rfl ?_
  refine v_cv (v_runI C (k_tbinit ht ht3 (va_up_same _ _ _)) (cwI 0 C.1.2.2.2.2 gX11_init_X9_init rfl rfl rfl (C.1.2.2.2.2 _ wwX11_init_in_X9_init) (C.1.2.2.2.2 _ wwX11_init_ml25) (C.1.2.2.2.2 _ wwX11_init_im_X9_init) rfl (by decide +kernel) ⟨Nat.le_of_ble_eq_true rfl, Nat.le_of_ble_eq_true rfl⟩) rfl dX11_init_31 (rest := [_, _]) (Nat.le_of_ble_eq_true rfl) rfl ⟨(by first | exact Nat.le_of_ble_eq_true rfl | (dsimp only; omega)), (by first | exact Nat.le_of_ble_eq_true rfl | (dsimp only; omega))⟩) (fun x' hx' => ?_)
  obtain ⟨al, ro, na, g2, T2, rfl, b1, b2, b3, b4, b5, b6, b7⟩ := hx'
  have dtb : fs ≠ tb := fun z => by rw [← z, s2] at htb; cases htb.1
  refine v_putF C (T := TX11) (ci := 11) (j := 2) (ty := (.object "FieldScribe$Table")) dX11_init_34 wiX11_init_X11 tyX11 tyX11_ok nmX11 rfl (by decide) wfX11_init_26 (fun _ h => h) rfl hm rfl rfl (rfl) (rfl) (FF_put (b7.so dtb (by rw [va_up_other _ _ _ dtb]; exact s2)) (Nat.le_of_ble_eq_true rfl)) ?_
  obtain ⟨f3, hf3⟩ : ∃ f3, f3 = va_up g2 fs (some (fs9 [.ref pr, .ref pg, .ref tb, .null, .null, .null, .null, .int 0, .int 0])) := ⟨_, rfl⟩
  refine v_x (x' := (f3, T2)) (fun H hP => by rw [hf3]; exact hP) ?_
  have s3 : f3 fs = some (fs9 [.ref pr, .ref pg, .ref tb, .null, .null, .null, .null, .int 0, .int 0]) := by rw [hf3, va_up_same]
  have x3 : extO f2 f3 T1 T2 fs := by rw [hf3]; exact extO_step htb.1 b7 _
  have p3 : f3 tb = tbE al 0 := by rw [hf3, va_up_other _ _ _ (Ne.symm dtb)]; exact b1
  have dal : al ≠ fs := fun z => by rw [z, va_up_other _ _ _ dtb, s2] at b6; cases b6
  obtain ⟨rf3, b8, b9⟩ := b2
  have p3a : f3 al = some (.inl (cR, 20, .inr (.inr (.inr (.inr rf3))))) := by rw [hf3, va_up_other _ _ _ dal]; exact b8
  have p3b : ∀ k, k < 20 → ∃ s z, T2 (na (ro k)) = some s ∧ f3 (ro k) = rwE (na (ro k)) z ∧ T1 (na (ro k)) = none ∧ ro k ≠ fs := fun k hk => by
      obtain ⟨s, z, q1, q2⟩ := b4.2.1 k hk
      have q3 : ro k ≠ fs := fun y => by have := (b5 k hk).2; rw [y, va_up_other _ _ _ dtb, s2] at this; cases this
      exact ⟨s, z, q1, by rw [hf3, va_up_other _ _ _ q3]; exact q2, (b5 k hk).1, q3⟩
  clear hf3
  refine v_aload_n C dX11_init_37 (j := 0) rfl rfl ?_
  refine v_new C (T := TX5) (ci := 5) dX11_init_38 wiX11_init_X5 tyX5 tyX5_ok wwX11_init_cl30 wwX11_init_isX5 wwX11_init_inX5 rfl (by decide) (by first | exact Nat.le_of_ble_eq_true rfl | (dsimp only; omega)) (by first | exact Nat.le_of_ble_eq_true rfl | (dsimp only; omega)) (FF_new (.inr (5, [.null, .int 0, .int 0]))) (fun po hpo => ?_)
  refine v_dup C dX11_init_41 rfl ?_
  refine v_cv (v_runI C (k_poinit ht ht4 (va_up_same _ _ _)) (cwI 0 C.1.2.2.2.2 gX11_init_X5_init rfl rfl rfl (C.1.2.2.2.2 _ wwX11_init_in_X5_init) (C.1.2.2.2.2 _ wwX11_init_ml32) (C.1.2.2.2.2 _ wwX11_init_im_X5_init) rfl (by decide +kernel) ⟨Nat.le_of_ble_eq_true rfl, Nat.le_of_ble_eq_true rfl⟩) rfl dX11_init_42 (rest := [_, _]) (Nat.le_of_ble_eq_true rfl) rfl ⟨(by first | exact Nat.le_of_ble_eq_true rfl | (dsimp only; omega)), (by first | exact Nat.le_of_ble_eq_true rfl | (dsimp only; omega))⟩) (fun x' hx' => ?_)
  obtain ⟨ra, q, g3, T3, rfl, c1, c2, c3, c4⟩ := hx'
  have dpo : fs ≠ po := fun z => by rw [← z, s3] at hpo; cases hpo.1
  refine v_putF C (T := TX11) (ci := 11) (j := 3) (ty := (.object "FieldScribe$Printout")) dX11_init_45 wiX11_init_X11 tyX11 tyX11_ok nmX11 rfl (by decide) wfX11_init_33 (fun _ h => h) rfl hm rfl rfl (rfl) (rfl) (FF_put (c4.so dpo (by rw [va_up_other _ _ _ dpo]; exact s3)) (Nat.le_of_ble_eq_true rfl)) ?_
  obtain ⟨f4, hf4⟩ : ∃ f4, f4 = va_up g3 fs (some (fs9 [.ref pr, .ref pg, .ref tb, .ref po, .null, .null, .null, .int 0, .int 0])) := ⟨_, rfl⟩
  refine v_x (x' := (f4, T3)) (fun H hP => by rw [hf4]; exact hP) ?_
  have s4 : f4 fs = some (fs9 [.ref pr, .ref pg, .ref tb, .ref po, .null, .null, .null, .int 0, .int 0]) := by rw [hf4, va_up_same]
  have x4 : extO f3 f4 T2 T3 fs := by rw [hf4]; exact extO_step hpo.1 c4 _
  have p4 : f4 po = poE ra 0 0 := by rw [hf4, va_up_other _ _ _ (Ne.symm dpo)]; exact c1
  have dra : ra ≠ fs := fun z => by rw [z, va_up_other _ _ _ dpo, s3] at c3; cases c3
  obtain ⟨⟨rf4, c5, c6⟩, c7, c8⟩ := c2
  have p4a : f4 ra = some (.inl (cT, 40, .inr (.inr (.inr (.inr rf4))))) := by rw [hf4, va_up_other _ _ _ dra]; exact c5
  clear hf4
  refine v_aload_n C dX11_init_48 (j := 0) rfl rfl ?_
  refine v_new C (T := TX8) (ci := 8) dX11_init_49 wiX11_init_X8 tyX8 tyX8_ok wwX11_init_cl37 wwX11_init_isX8 wwX11_init_inX8 rfl (by decide) (by first | exact Nat.le_of_ble_eq_true rfl | (dsimp only; omega)) (by first | exact Nat.le_of_ble_eq_true rfl | (dsimp only; omega)) (FF_new (.inr (8, [.null]))) (fun sm hsm => ?_)
  refine v_dup C dX11_init_52 rfl ?_
  refine v_cv (v_runI C (k_sminit ht ht4 (va_up_same _ _ _)) (cwI 0 C.1.2.2.2.2 gX11_init_X8_init rfl rfl rfl (C.1.2.2.2.2 _ wwX11_init_in_X8_init) (C.1.2.2.2.2 _ wwX11_init_ml39) (C.1.2.2.2.2 _ wwX11_init_im_X8_init) rfl (by decide +kernel) ⟨Nat.le_of_ble_eq_true rfl, Nat.le_of_ble_eq_true rfl⟩) rfl dX11_init_53 (rest := [_, _]) (Nat.le_of_ble_eq_true rfl) rfl ⟨(by first | exact Nat.le_of_ble_eq_true rfl | (dsimp only; omega)), (by first | exact Nat.le_of_ble_eq_true rfl | (dsimp only; omega))⟩) (fun x' hx' => ?_)
  obtain ⟨sa, sq, g4, T4, rfl, d1, d2, d3, d4⟩ := hx'
  have dsm : fs ≠ sm := fun z => by rw [← z, s4] at hsm; cases hsm.1
  refine v_putF C (T := TX11) (ci := 11) (j := 4) (ty := (.object "FieldScribe$StackMachine")) dX11_init_56 wiX11_init_X11 tyX11 tyX11_ok nmX11 rfl (by decide) wfX11_init_40 (fun _ h => h) rfl hm rfl rfl (rfl) (rfl) (FF_put (d4.so dsm (by rw [va_up_other _ _ _ dsm]; exact s4)) (Nat.le_of_ble_eq_true rfl)) ?_
  obtain ⟨f5, hf5⟩ : ∃ f5, f5 = va_up g4 fs (some (fs9 [.ref pr, .ref pg, .ref tb, .ref po, .ref sm, .null, .null, .int 0, .int 0])) := ⟨_, rfl⟩
  refine v_x (x' := (f5, T4)) (fun H hP => by rw [hf5]; exact hP) ?_
  have s5 : f5 fs = some (fs9 [.ref pr, .ref pg, .ref tb, .ref po, .ref sm, .null, .null, .int 0, .int 0]) := by rw [hf5, va_up_same]
  have x5 : extO f4 f5 T3 T4 fs := by rw [hf5]; exact extO_step hsm.1 d4 _
  have p5 : f5 sm = some (.inr (8, [.ref sa])) := by rw [hf5, va_up_other _ _ _ (Ne.symm dsm)]; exact d1
  have dsa : sa ≠ fs := fun z => by rw [z, va_up_other _ _ _ dsm, s4] at d3; cases d3
  obtain ⟨⟨rf5, d5, d6⟩, d7, d8⟩ := d2
  have p5a : f5 sa = some (.inl (cT, 2, .inr (.inr (.inr (.inr rf5))))) := by rw [hf5, va_up_other _ _ _ dsa]; exact d5
  clear hf5
  refine v_aload_n C dX11_init_59 (j := 0) rfl rfl ?_
  refine v_new C (T := TX10) (ci := 10) dX11_init_60 wiX11_init_X10 tyX10 tyX10_ok wwX11_init_cl44 wwX11_init_isX10 wwX11_init_inX10 rfl (by decide) (by first | exact Nat.le_of_ble_eq_true rfl | (dsimp only; omega)) (by first | exact Nat.le_of_ble_eq_true rfl | (dsimp only; omega)) (FF_new txN) (fun ty hty => ?_)
  refine v_dup C dX11_init_63 rfl ?_
  refine v_cv (v_runIN C (k_tinit ht hty.1) ⟨va_cnB 0 C.1.2.2.2.2 gX11_init_X10_init_n46 rfl rfl rfl (v_nest C 0 rfl) (C.1.2.2.2.2 _ wwX11_init_in_X10_init) (by decide +kernel) ⟨Nat.le_of_ble_eq_true rfl, Nat.le_of_ble_eq_true rfl⟩, rfl, C.1.2.2.2.2 _ wwX11_init_st_X10_init⟩ rfl dX11_init_64 (rest := [_, _]) (Nat.le_of_ble_eq_true rfl) rfl ⟨(by first | exact Nat.le_of_ble_eq_true rfl | (dsimp only; omega)), (by first | exact Nat.le_of_ble_eq_true rfl | (dsimp only; omega))⟩) (fun x' hx' => ?_)
  subst hx'
  refine v_putF C (T := TX11) (ci := 11) (j := 5) (ty := (.object "FieldScribe$Text")) dX11_init_67 wiX11_init_X11 tyX11 tyX11_ok nmX11 rfl (by decide) wfX11_init_47 (fun _ h => h) rfl hm rfl rfl (rfl) (rfl) (FF_put s5 (Nat.le_of_ble_eq_true rfl)) ?_
  refine v_aload_n C dX11_init_70 (j := 0) rfl rfl ?_
  have s6 := va_up_same f5 fs (some (fs9 [.ref pr, .ref pg, .ref tb, .ref po, .ref sm, .ref ty, .null, .int 0, .int 0]))
  refine v_new C (T := TX10) (ci := 10) dX11_init_71 wiX11_init_X10 tyX10 tyX10_ok wwX11_init_cl44 wwX11_init_isX10 wwX11_init_inX10 rfl (by decide) (by first | exact Nat.le_of_ble_eq_true rfl | (dsimp only; omega)) (by first | exact Nat.le_of_ble_eq_true rfl | (dsimp only; omega)) (FF_new txN) (fun va hva => ?_)
  refine v_dup C dX11_init_74 rfl ?_
  refine v_cv (v_runIN C (k_tinit ht hva.1) ⟨va_cnB 0 C.1.2.2.2.2 gX11_init_X10_init_n46 rfl rfl rfl (v_nest C 0 rfl) (C.1.2.2.2.2 _ wwX11_init_in_X10_init) (by decide +kernel) ⟨Nat.le_of_ble_eq_true rfl, Nat.le_of_ble_eq_true rfl⟩, rfl, C.1.2.2.2.2 _ wwX11_init_st_X10_init⟩ rfl dX11_init_75 (rest := [_, _]) (Nat.le_of_ble_eq_true rfl) rfl ⟨(by first | exact Nat.le_of_ble_eq_true rfl | (dsimp only; omega)), (by first | exact Nat.le_of_ble_eq_true rfl | (dsimp only; omega))⟩) (fun x' hx' => ?_)
  subst hx'
  refine v_putF C (T := TX11) (ci := 11) (j := 6) (ty := (.object "FieldScribe$Text")) dX11_init_78 wiX11_init_X11 tyX11 tyX11_ok nmX11 rfl (by decide) wfX11_init_51 (fun _ h => h) rfl hm rfl rfl (rfl) (rfl) (FF_put s6 (Nat.le_of_ble_eq_true rfl)) ?_
  obtain ⟨f7, hf7⟩ : ∃ f7, f7 = va_up (va_up f5 fs (some (fs9 [.ref pr, .ref pg, .ref tb, .ref po, .ref sm, .ref ty, .null, .int 0, .int 0]))) fs (some (fs9 [.ref pr, .ref pg, .ref tb, .ref po, .ref sm, .ref ty, .ref va, .int 0, .int 0])) := ⟨_, rfl⟩
  obtain ⟨T7, hT7⟩ : ∃ T7, T7 = va_up (va_up T4 ty (some [])) va (some []) := ⟨_, rfl⟩
  refine v_x (x' := (f7, T7)) (fun H hP => by rw [hf7, hT7]; exact hP) ?_
  have x7 : extO f5 f7 T4 T7 fs := by rw [hf7, hT7]; exact (extO_text hty.2 _ _).tr (extO_text hva.2 _ _)
  have s7 : f7 fs = some (fs9 [.ref pr, .ref pg, .ref tb, .ref po, .ref sm, .ref ty, .ref va, .int 0, .int 0]) := by rw [hf7, va_up_same]
  have dtv : ty ≠ va := fun z => by have := hva.2; rw [← z, va_up_same] at this; cases this
  have t7 : T7 ty = some [] := by rw [hT7, va_up_other _ _ _ dtv, va_up_same]
  have v7 : T7 va = some [] := by rw [hT7, va_up_same]
  have tva : T4 va = none := by have := hva.2; rw [va_up_other _ _ _ (Ne.symm dtv)] at this; exact this
  clear hf7 hT7
  have x57 := x5.tr x7
  have x47 := x4.tr x57
  have x37 := x3.tr x47
  have x27 := x2.tr x37
  obtain ⟨a, ha⟩ : ∃ a : Nat → Nat, a = fun n => if n = 0 then fs else if n = 1 then pr else if n = 2 then pg else if n = 3 then wh else if n = 4 then pa else if n = 5 then tb else if n = 6 then al else if n = 7 then po else if n = 8 then ra else if n = 9 then sm else if n = 10 then sa else if n = 11 then ty else if n = 12 then va else if n = 13 then sq 0 else if n = 14 then sq 1 else if n < 40 then pc (n - 20) else q (n - 40) := ⟨_, rfl⟩
  have y0 : a 0 = fs := by rw [ha]; rfl
  have y1 : a 1 = pr := by rw [ha]; rfl
  have y2 : a 2 = pg := by rw [ha]; rfl
  have y3 : a 3 = wh := by rw [ha]; rfl
  have y4 : a 4 = pa := by rw [ha]; rfl
  have y5 : a 5 = tb := by rw [ha]; rfl
  have y6 : a 6 = al := by rw [ha]; rfl
  have y7 : a 7 = po := by rw [ha]; rfl
  have y8 : a 8 = ra := by rw [ha]; rfl
  have y9 : a 9 = sm := by rw [ha]; rfl
  have y10 : a 10 = sa := by rw [ha]; rfl
  have y11 : a 11 = ty := by rw [ha]; rfl
  have y12 : a 12 = va := by rw [ha]; rfl
  have y13 : a 13 = sq 0 := by rw [ha]; rfl
  have y14 : a 14 = sq 1 := by rw [ha]; rfl
  have yp : ∀ k, k < 12 → pcA a k = pc k := fun k hk => by
      show a (20 + k) = pc k
      rw [ha]
      dsimp only
      rw [if_neg (by omega), if_neg (by omega), if_neg (by omega), if_neg (by omega), if_neg (by omega), if_neg (by omega), if_neg (by omega), if_neg (by omega), if_neg (by omega), if_neg (by omega), if_neg (by omega), if_neg (by omega), if_neg (by omega), if_neg (by omega), if_neg (by omega), if_pos (by omega), show 20 + k - 20 = k by omega]
  have yq : ∀ k, k < 40 → qA a k = q k := fun k hk => by
      show a (40 + k) = q k
      rw [ha]
      dsimp only
      rw [if_neg (by omega), if_neg (by omega), if_neg (by omega), if_neg (by omega), if_neg (by omega), if_neg (by omega), if_neg (by omega), if_neg (by omega), if_neg (by omega), if_neg (by omega), if_neg (by omega), if_neg (by omega), if_neg (by omega), if_neg (by omega), if_neg (by omega), if_neg (by omega), show 40 + k - 40 = k by omega]
  obtain ⟨lab, hlab⟩ : ∃ lab : Nat → Nat, lab = fun p => if (T1 p).isSome = true then (if p = wh then 1 else 2) else if (T2 p).isSome = true then 8 else if (T3 p).isSome = true then 7 else if (T4 p).isSome = true then (if p = sq 0 then 5 else 6) else if p = ty then 3 else 4 := ⟨_, rfl⟩
  have e1 : lab wh = 1 := by rw [hlab]; dsimp only; rw [a6, if_pos (isS _), if_pos rfl]
  have e2 : ∀ k, k < 12 → lab (pc k) = 2 := fun k hk => by rw [hlab]; dsimp only; rw [(a10 k hk).1, if_pos (isS _), if_neg (a7 k hk)]
  have n43 : ∀ p, T4 p = none → T3 p = none := fun p hp => by
      cases h : T3 p with
      | none => rfl
      | some s => have := x5.te h; rw [hp] at this; cases this
  have n32 : ∀ p, T3 p = none → T2 p = none := fun p hp => by
      cases h : T2 p with
      | none => rfl
      | some s => have := x4.te h; rw [hp] at this; cases this
  have n21 : ∀ p, T2 p = none → T1 p = none := fun p hp => by
      cases h : T1 p with
      | none => rfl
      | some s => have := x3.te h; rw [hp] at this; cases this
  have e8 : ∀ k, k < 20 → lab (na (ro k)) = 8 := fun k hk => by
      obtain ⟨s, z, q1, q2, q3, q4⟩ := p3b k hk
      rw [hlab]; dsimp only; rw [q3, q1, if_neg (by simp), if_pos (isS _)]
  have e7 : ∀ k, k < 40 → lab (q k) = 7 := fun k hk => by
      have h2 := (c7 k hk).2
      rw [hlab]; dsimp only; rw [n21 _ h2, h2, (c7 k hk).1, if_neg (by simp), if_neg (by simp), if_pos (isS _)]
  have e5 : lab (sq 0) = 5 := by
      have h3 := (d7 0 (by decide)).2
      rw [hlab]; dsimp only; rw [n21 _ (n32 _ h3), n32 _ h3, h3, (d7 0 (by decide)).1, if_neg (by simp), if_neg (by simp), if_neg (by simp), if_pos (isS _), if_pos rfl]
  have e6 : lab (sq 1) = 6 := by
      have h3 := (d7 1 (by decide)).2
      rw [hlab]; dsimp only; rw [n21 _ (n32 _ h3), n32 _ h3, h3, (d7 1 (by decide)).1, if_neg (by simp), if_neg (by simp), if_neg (by simp), if_pos (isS _), if_neg (fun z => by have := d8 1 0 (by decide) (by decide) z; cases this)]
  have e3 : lab ty = 3 := by
      have h4 := hty.2
      rw [hlab]; dsimp only; rw [n21 _ (n32 _ (n43 _ h4)), n32 _ (n43 _ h4), n43 _ h4, h4, if_neg (by simp), if_neg (by simp), if_neg (by simp), if_neg (by simp), if_pos rfl]
  have e4 : lab va = 4 := by
      rw [hlab]; dsimp only; rw [n21 _ (n32 _ (n43 _ tva)), n32 _ (n43 _ tva), n43 _ tva, tva, if_neg (by simp), if_neg (by simp), if_neg (by simp), if_neg (by simp), if_neg (Ne.symm dtv)]
  have hwI : wI f7 T7 cT cR a na lab 32 0 [] false ([], [], [], 0) := by
      refine ⟨?_, ⟨⟨?_, pf, ?_, fun k hk => ?_⟩, ?_, fun k hk => ?_⟩, ⟨ro, ?_, ⟨rf3, ?_, b9⟩, b3, ⟨by simp, fun k hk => ?_, fun k hk => absurd hk (Nat.not_lt_zero k)⟩, e8⟩, ⟨0, ?_, ⟨rf4, ?_, fun k hk => ?_⟩, ⟨by decide, by simp, fun k hk => ?_, fun k hk => absurd hk (Nat.not_lt_zero k)⟩⟩, ⟨?_, ⟨rf5, ?_, ?_, ?_⟩, ?_, ?_⟩, ?_, ?_⟩
      · unfold fsE; rw [y0, y1, y2, y5, y7, y9, y11, y12]; exact s7
      · rw [y2, y3, y4]; exact x37.so (Ne.symm dpg) p2
      · rw [y4]; exact x37.so dpa p2a
      · rw [yp k hk]; exact a9 k hk
      · rw [y3]; exact x37.te a6
      · rw [yp k hk]; exact x37.te (a10 k hk).1
      · rw [y5, y6]; exact x47.so (Ne.symm dtb) p3
      · rw [y6]; exact x47.so dal p3a
      · obtain ⟨s, z, q1, q2, q3, q4⟩ := p3b k hk
        exact ⟨s, z, x47.te q1, x47.so q4 q2⟩
      · rw [y7, y8]; exact x57.so (Ne.symm dpo) p4
      · rw [y8]; exact x57.so dra p4a
      · rw [yq k hk]; exact c6 k hk
      · rw [yq k hk]; exact ⟨_, x57.te (c7 k hk).1⟩
      · rw [y9, y10]; exact x7.so (Ne.symm dsm) p5
      · rw [y10]; exact x7.so dsa p5a
      · rw [y13]; exact d6 0 (by decide)
      · rw [y14]; exact d6 1 (by decide)
      · rw [y13]; exact ⟨_, x7.te (d7 0 (by decide)).1⟩
      · rw [y14]; exact ⟨_, x7.te (d7 1 (by decide)).1⟩
      · rw [y11]; exact t7
      · rw [y12]; exact ⟨_, v7⟩
  exact v_return C dX11_init_81 hr (Nat.le_of_ble_eq_true rfl) (Nat.le_of_ble_eq_true rfl) (⟨a, na, lab, fun _ => 0, f7, T7, rfl, y0, hwI, ⟨by rw [y3]; exact e1, fun k hk => by rw [yp k hk]; exact e2 k hk, by rw [y11]; exact e3, by rw [y12]; exact e4, by rw [y13]; exact e5, by rw [y14]; exact e6, fun k hk => by rw [yq k hk]; exact e7 k hk, ⟨fun k hk => by rw [yp k hk, y3]; exact a7 k hk, fun i j hi hj hij => by rw [yp i hi, yp j hj] at hij; exact a11 i j hi hj hij⟩, fun i j hi hj hij => by rw [yq i hi, yq j hj] at hij; exact c8 i j hi hj hij⟩, ⟨z0, [], ⟨⟨0, by rw [y1]; exact x27.so (Ne.symm dpr) p1⟩, by simp, by rw [if_pos rfl]⟩, rfl, fun h => absurd rfl h, rfl, fun i hi => absurd hi (Nat.not_lt_zero i)⟩⟩)
end NF
