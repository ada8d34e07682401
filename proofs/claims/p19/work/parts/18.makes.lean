/-! ===== what constructors make ===== -/
theorem wwX10_init_oi3 : Cond.methodLink RX10 3 Lib.objectInit ∈ wsX10_init := by decide +kernel
theorem wwX10_init_oim : Cond.instanceMethod Lib.objectInit ∈ wsX10_init := by decide +kernel
theorem wwX10_init_oic : Cond.code Lib.objectInit ⟨#[0xb1]⟩ 1 none ∈ wsX10_init := by decide +kernel
theorem wwX10_init_acchar : Cond.arrayClass (newarray.typeOf .char) ∈ wsX10_init := by decide +kernel
theorem wfX10_init_9 : Cond.fieldLink RX10 9 "FieldScribe$Text" (TX10 0).2.1 (TX10 0).2.2.1 ∈ wsX10_init := by decide +kernel
theorem wiX10_init_X10 : ∀ w ∈ u_ws RX10 TX10 2, w ∈ wsX10_init := by decide +kernel
theorem wwX6_init_oi1 : Cond.methodLink RX6 1 Lib.objectInit ∈ wsX6_init := by decide +kernel
theorem wwX6_init_oim : Cond.instanceMethod Lib.objectInit ∈ wsX6_init := by decide +kernel
theorem wwX6_init_oic : Cond.code Lib.objectInit ⟨#[0xb1]⟩ 1 none ∈ wsX6_init := by decide +kernel
theorem wiX6_init_X10 : ∀ w ∈ u_ws RX10 TX10 2, w ∈ wsX6_init := by decide +kernel
theorem wwX6_init_cl7 : Cond.classLink RX6 7 RX10 ∈ wsX6_init := by decide +kernel
theorem wwX6_init_isX10 : Cond.instantiable RX10 2 ∈ wsX6_init := by decide +kernel
theorem wwX6_init_inX10 : Cond.initialized RX10 ∈ wsX6_init := by decide +kernel
theorem wwX6_init_in_X10_init : Cond.initialized yX10_init.cls ∈ wsX6_init := by decide +kernel
theorem wwX6_init_st_X10_init : Cond.instanceMethod yX10_init ∈ wsX6_init := by decide +kernel
theorem wfX6_init_10 : Cond.fieldLink RX6 10 "FieldScribe$Row" (TX6 0).2.1 (TX6 0).2.2.1 ∈ wsX6_init := by decide +kernel
theorem wiX6_init_X6 : ∀ w ∈ u_ws RX6 TX6 2, w ∈ wsX6_init := by decide +kernel
theorem wwX3_init_oi1 : Cond.methodLink RX3 1 Lib.objectInit ∈ wsX3_init := by decide +kernel
theorem wwX3_init_oim : Cond.instanceMethod Lib.objectInit ∈ wsX3_init := by decide +kernel
theorem wwX3_init_oic : Cond.code Lib.objectInit ⟨#[0xb1]⟩ 1 none ∈ wsX3_init := by decide +kernel
theorem wwX2_init_in_X3_init : Cond.initialized yX3_init.cls ∈ wsX2_init := by decide +kernel
theorem wwX2_init_st_X3_init : Cond.instanceMethod yX3_init ∈ wsX2_init := by decide +kernel
theorem wfX2_init_7 : Cond.fieldLink RX2 7 "FieldScribe$Leaf" (TX2 0).2.1 (TX2 0).2.2.1 ∈ wsX2_init := by decide +kernel
theorem wiX2_init_X2 : ∀ w ∈ u_ws RX2 TX2 1, w ∈ wsX2_init := by decide +kernel
theorem wwX1_init_in_X3_init : Cond.initialized yX3_init.cls ∈ wsX1_init := by decide +kernel
theorem wwX1_init_st_X3_init : Cond.instanceMethod yX3_init ∈ wsX1_init := by decide +kernel
theorem wiX1_init_X10 : ∀ w ∈ u_ws RX10 TX10 2, w ∈ wsX1_init := by decide +kernel
theorem wwX1_init_cl7 : Cond.classLink RX1 7 RX10 ∈ wsX1_init := by decide +kernel
theorem wwX1_init_isX10 : Cond.instantiable RX10 2 ∈ wsX1_init := by decide +kernel
theorem wwX1_init_inX10 : Cond.initialized RX10 ∈ wsX1_init := by decide +kernel
theorem wwX1_init_in_X10_init : Cond.initialized yX10_init.cls ∈ wsX1_init := by decide +kernel
theorem wwX1_init_st_X10_init : Cond.instanceMethod yX10_init ∈ wsX1_init := by decide +kernel
theorem wfX1_init_10 : Cond.fieldLink RX1 10 "FieldScribe$Fork" (TX1 3).2.1 (TX1 3).2.2.1 ∈ wsX1_init := by decide +kernel
theorem wiX1_init_X1 : ∀ w ∈ u_ws RX1 TX1 4, w ∈ wsX1_init := by decide +kernel
theorem wfX1_init_16 : Cond.fieldLink RX1 16 "FieldScribe$Fork" (TX1 0).2.1 (TX1 0).2.2.1 ∈ wsX1_init := by decide +kernel
theorem wfX1_init_20 : Cond.fieldLink RX1 20 "FieldScribe$Fork" (TX1 1).2.1 (TX1 1).2.2.1 ∈ wsX1_init := by decide +kernel
theorem wfX1_init_24 : Cond.fieldLink RX1 24 "FieldScribe$Fork" (TX1 2).2.1 (TX1 2).2.2.1 ∈ wsX1_init := by decide +kernel
theorem wwX0_init_oi1 : Cond.methodLink RX0 1 Lib.objectInit ∈ wsX0_init := by decide +kernel
theorem wwX0_init_oim : Cond.instanceMethod Lib.objectInit ∈ wsX0_init := by decide +kernel
theorem wwX0_init_oic : Cond.code Lib.objectInit ⟨#[0xb1]⟩ 1 none ∈ wsX0_init := by decide +kernel
theorem wfX0_init_7 : Cond.fieldLink RX0 7 "FieldScribe$Action" (TX0 0).2.1 (TX0 0).2.2.1 ∈ wsX0_init := by decide +kernel
theorem wiX0_init_X0 : ∀ w ∈ u_ws RX0 TX0 4, w ∈ wsX0_init := by decide +kernel
theorem wfX0_init_13 : Cond.fieldLink RX0 13 "FieldScribe$Action" (TX0 1).2.1 (TX0 1).2.2.1 ∈ wsX0_init := by decide +kernel
theorem wfX0_init_16 : Cond.fieldLink RX0 16 "FieldScribe$Action" (TX0 2).2.1 (TX0 2).2.2.1 ∈ wsX0_init := by decide +kernel
theorem wfX0_init_20 : Cond.fieldLink RX0 20 "FieldScribe$Action" (TX0 3).2.1 (TX0 3).2.2.1 ∈ wsX0_init := by decide +kernel
theorem wwX7_init_oi3 : Cond.methodLink RX7 3 Lib.objectInit ∈ wsX7_init := by decide +kernel
theorem wwX7_init_oim : Cond.instanceMethod Lib.objectInit ∈ wsX7_init := by decide +kernel
theorem wwX7_init_oic : Cond.code Lib.objectInit ⟨#[0xb1]⟩ 1 none ∈ wsX7_init := by decide +kernel
theorem wiX7_init_Jx4a65c : ∀ w ∈ u_ws RJx4a65c TJx4a65c 3, w ∈ wsX7_init := by decide +kernel
theorem wwX7_init_cl9 : Cond.classLink RX7 9 RJx4a65c ∈ wsX7_init := by decide +kernel
theorem wwX7_init_isJx4a65c : Cond.instantiable RJx4a65c 3 ∈ wsX7_init := by decide +kernel
theorem wwX7_init_inJx4a65c : Cond.initialized RJx4a65c ∈ wsX7_init := by decide +kernel
theorem wwX7_init_in_Jx4a65c_init_da8c8 : Cond.initialized yJx4a65c_init_da8c8.cls ∈ wsX7_init := by decide +kernel
theorem wwX7_init_ml11 : Cond.methodLink RX7 11 yJx4a65c_init_da8c8 ∈ wsX7_init := by decide +kernel
theorem wwX7_init_im_Jx4a65c_init_da8c8 : Cond.instanceMethod yJx4a65c_init_da8c8 ∈ wsX7_init := by decide +kernel
theorem wfX7_init_12 : Cond.fieldLink RX7 12 "FieldScribe$Rule" (TX7 3).2.1 (TX7 3).2.2.1 ∈ wsX7_init := by decide +kernel
theorem wiX7_init_X7 : ∀ w ∈ u_ws RX7 TX7 5, w ∈ wsX7_init := by decide +kernel
theorem wfX7_init_18 : Cond.fieldLink RX7 18 "FieldScribe$Rule" (TX7 0).2.1 (TX7 0).2.2.1 ∈ wsX7_init := by decide +kernel
theorem wfX7_init_22 : Cond.fieldLink RX7 22 "FieldScribe$Rule" (TX7 1).2.1 (TX7 1).2.2.1 ∈ wsX7_init := by decide +kernel
theorem wfX7_init_25 : Cond.fieldLink RX7 25 "FieldScribe$Rule" (TX7 2).2.1 (TX7 2).2.2.1 ∈ wsX7_init := by decide +kernel
theorem wiX11_treeOf_X1 : ∀ w ∈ u_ws RX1 TX1 4, w ∈ wsX11_treeOf := by decide +kernel
theorem wwX11_treeOf_cl263 : Cond.classLink RX11 263 RX1 ∈ wsX11_treeOf := by decide +kernel
theorem wwX11_treeOf_isX1 : Cond.instantiable RX1 4 ∈ wsX11_treeOf := by decide +kernel
theorem wwX11_treeOf_inX1 : Cond.initialized RX1 ∈ wsX11_treeOf := by decide +kernel
theorem wiX11_treeOf_X2 : ∀ w ∈ u_ws RX2 TX2 1, w ∈ wsX11_treeOf := by decide +kernel
theorem wwX11_treeOf_cl259 : Cond.classLink RX11 259 RX2 ∈ wsX11_treeOf := by decide +kernel
theorem wwX11_treeOf_isX2 : Cond.instantiable RX2 1 ∈ wsX11_treeOf := by decide +kernel
theorem wwX11_treeOf_inX2 : Cond.initialized RX2 ∈ wsX11_treeOf := by decide +kernel
theorem wwX11_treeOf_in_X2_init : Cond.initialized yX2_init.cls ∈ wsX11_treeOf := by decide +kernel
theorem wwX11_treeOf_ml261 : Cond.methodLink RX11 261 yX2_init ∈ wsX11_treeOf := by decide +kernel
theorem wwX11_treeOf_im_X2_init : Cond.instanceMethod yX2_init ∈ wsX11_treeOf := by decide +kernel
theorem wwX11_treeOf_in_X1_init : Cond.initialized yX1_init.cls ∈ wsX11_treeOf := by decide +kernel
theorem wwX11_treeOf_ml265 : Cond.methodLink RX11 265 yX1_init ∈ wsX11_treeOf := by decide +kernel
theorem wwX11_treeOf_im_X1_init : Cond.instanceMethod yX1_init ∈ wsX11_treeOf := by decide +kernel
theorem wwX11_codeOf_acint : Cond.arrayClass (newarray.typeOf .int) ∈ wsX11_codeOf := by decide +kernel
section MK
variable {l : Launch} {D : va_G} {tys : List (ClassId × FieldType)} {z0 : Nat} {A : Nat → Prop} {cC cT cI : ClassId} {f : Nat → Option va_E} {T : Nat → Option (List Int32)} {t a o : Nat}
theorem FF_adopt (h1 : f t = some (.inr (10, [.ref a, .int 0]))) (h2 : f a = some (.inl (cC, 60, .inl (fun _ => 0)))) {H : Heap} (hP : picF D cC A (f, T) H) : picF D cC A (va_up (va_up f t none) a none, va_up T t (some [])) H := by
  obtain ⟨ar, ln, g, hr, h4, h5, h6, h7⟩ := hP
  dsimp only at hr h4 h5 h6 h7
  have hta : a ≠ t := fun z => by rw [z, h1] at h2; cases h2
  have a1 : ar a = none := by
    cases h : ar a with
    | none => rfl
    | some b => have := (h7 a b h).2.1; rw [h2] at this; cases this
  have a2 : ar t = none := by
    cases h : ar t with
    | none => rfl
    | some b => have := (h7 t b h).2.1; rw [h1] at this; cases this
  have a3 : ∀ t', ar t' ≠ some a := fun t' h => by have := (h7 t' a h).2.2; rw [h2] at this; cases this
  have a4 : ∀ t', ar t' ≠ some t := fun t' h => by have := (h7 t' t h).2.2; rw [h1] at this; cases this
  have up0 : ∀ q e, va_up (va_up f t none) a none q = some e → f q = some e := fun q e h => by
    by_cases q1 : q = a
    · rw [q1, va_up_same] at h; cases h
    · rw [va_up_other _ _ _ q1] at h
      by_cases q2 : q = t
      · rw [q2, va_up_same] at h; cases h
      · rw [va_up_other _ _ _ q2] at h; exact h
  have up1 : ∀ q, f q = none → va_up (va_up f t none) a none q = none := fun q h => by
    by_cases q1 : q = a
    · rw [q1, va_up_same]
    · rw [va_up_other _ _ _ q1]
      by_cases q2 : q = t
      · rw [q2, va_up_same]
      · rw [va_up_other _ _ _ q2]; exact h
  refine ⟨va_up ar t (some a), va_up ln t 0, va_up g t (fun _ => 0), ⟨fun t' => ?_, fun t' b j h hj => ?_⟩, fun q e h => h4 q e (up0 q e h), fun t' b h => ?_, fun t' t'' b h h' => ?_, fun t' b h => ?_⟩
  · show va_up T t (some []) t' = (va_up ar t (some a) t').map (fun _ => sl (va_up g t (fun _ => 0) t') (va_up ln t 0 t'))
    by_cases q : t' = t
    · subst q; rw [va_up_same, va_up_same, va_up_same, va_up_same]; rfl
    · rw [va_up_other _ _ _ q, va_up_other _ _ _ q, va_up_other _ _ _ q, va_up_other _ _ _ q]; exact hr.1 t'
  · by_cases q : t' = t
    · subst q; rw [va_up_same] at hj; cases hj
    · rw [va_up_other _ _ _ q] at h hj ⊢; exact hr.2 t' b j h hj
  · dsimp only at h ⊢
    by_cases q : t' = t
    · subst q
      rw [va_up_same] at h
      cases h
      rw [va_up_same, va_up_same]
      exact ⟨(h4 _ _ h1).1, (h4 _ _ h2).1, (h4 _ _ h1).2, (h4 _ _ h2).2, by decide⟩
    · rw [va_up_other _ _ _ q] at h ⊢
      rw [va_up_other _ _ _ q]
      exact h5 t' b h
  · dsimp only at h h'
    by_cases q : t' = t
    · by_cases q2 : t'' = t
      · rw [q, q2]
      · subst q
        rw [va_up_same] at h
        cases h
        rw [va_up_other _ _ _ q2] at h'
        exact absurd h' (a3 _)
    · rw [va_up_other _ _ _ q] at h
      by_cases q2 : t'' = t
      · subst q2
        rw [va_up_same] at h'
        cases h'
        exact absurd h (a3 _)
      · rw [va_up_other _ _ _ q2] at h'
        exact h6 t' t'' b h h'
  · dsimp only at h ⊢
    by_cases q : t' = t
    · subst q
      rw [va_up_same] at h
      cases h
      exact ⟨by rw [va_up_other _ _ _ hta]; exact a1, by rw [va_up_other _ _ _ (Ne.symm hta), va_up_same], va_up_same _ _ _⟩
    · rw [va_up_other _ _ _ q] at h
      obtain ⟨b1, b2, b3⟩ := h7 t' b h
      exact ⟨by rw [va_up_other _ _ _ (fun z => a4 t' (by rw [← z]; exact h))]; exact b1, up1 _ b2, up1 _ b3⟩
abbrev txN : va_E := .inr (10, [.null, .int 0])
set_option maxRecDepth 100000 in
set_option maxHeartbeats 4000000 in
theorem k_tinit (ht : tys[0]? = some (cC, .char)) (ht0 : f t = none) : ct D tys z0 A (picF D cC A) l yX10_init wsX10_init ({ frames := 1, cells := 1, slots := 60, locals := 24 } : Room) [.ref t] (va_up f t (some txN), T) (qV (picF D cC A) A (fun x => x = (f, va_up T t (some [])))) := by
  refine ct_of RX10 (by decide +kernel) rfl rfl (Nat.le_of_ble_eq_true rfl) ?_
  intro p e s m below meth c C hr hm
  refine v_lv (lv' := [(0, _)]) rfl ?_
  refine v_aload_n C dX10_init_0 (j := 0) rfl rfl ?_
  refine v_objInit C dX10_init_1 wwX10_init_oi3 wwX10_init_oim wwX10_init_oic (Nat.le_of_ble_eq_true rfl) (Nat.le_of_ble_eq_true rfl) ?_
  refine v_aload_n C dX10_init_4 (j := 0) rfl rfl ?_
  refine v_bipush C dX10_init_5 (v := 60) (by decide) ?_
  refine v_newa C (N := 60) (a0 := (60, .inl (fun _ => 0))) (atype := .char) dX10_init_7 wwX10_init_acchar 0 ht rfl (by first | exact vp_cell_i _ _ _ | rfl) (by decide) (by decide) (Nat.le_of_ble_eq_true rfl) (by first | exact Nat.le_of_ble_eq_true rfl | (dsimp only; omega)) (by first | exact Nat.le_of_ble_eq_true rfl | (dsimp only; omega)) (FF_new _) (fun a hq => ?_)
  have hta : t ≠ a := fun z => by rw [← z, va_up_same] at hq; cases hq.1
  have h0 : va_up (va_up f t (some txN)) a (some (.inl (cC, 60, .inl (fun _ => 0)))) t = some txN := by rw [va_up_other _ _ _ hta, va_up_same]
  refine v_putF C (T := TX10) (ci := 10) (j := 0) (ty := (.array .char)) dX10_init_9 wiX10_init_X10 tyX10 tyX10_ok nmX10 rfl (by decide) wfX10_init_9 (fun _ h => h) rfl hm rfl rfl (rfl) (rfl) (FF_put h0 (Nat.le_of_ble_eq_true rfl)) ?_
  refine v_x (x' := (f, va_up T t (some []))) (fun H hP => ?_) ?_
  · have h9 := FF_adopt (t := t) (a := a) (va_up_same _ _ _) (by rw [va_up_other _ _ _ (Ne.symm hta), va_up_same]) hP
    have e9 : va_up (va_up (va_up (va_up (va_up f t (some txN)) a (some (.inl (cC, 60, .inl (fun _ => 0))))) t (some (.inr (10, [.ref a, .int 0])))) t none) a none = f := by
        funext q
        have hfa : f a = none := by have := hq.1; rw [va_up_other _ _ _ (Ne.symm hta)] at this; exact this
        by_cases q1 : q = a
        · rw [q1, va_up_same]; exact hfa.symm
        · rw [va_up_other _ _ _ q1]
          by_cases q2 : q = t
          · rw [q2, va_up_same]; exact ht0.symm
          · rw [va_up_other _ _ _ q2, va_up_other _ _ _ q2, va_up_other _ _ _ q1, va_up_other _ _ _ q2]
    rw [e9] at h9
    exact h9
  exact v_return C dX10_init_12 hr (Nat.le_of_ble_eq_true rfl) (Nat.le_of_ble_eq_true rfl) (rfl)
/-- nothing that was there is gone or changed -/
def ext (f f' : Nat → Option va_E) (T T' : Nat → Option (List Int32)) : Prop := (∀ p, f p ≠ none → f' p = f p) ∧ ∀ p, T p ≠ none → T' p = T p
theorem ext.rf : ext f f T T := ⟨fun _ _ => rfl, fun _ _ => rfl⟩
theorem ext.tr {f' f'' : Nat → Option va_E} {T' T'' : Nat → Option (List Int32)} (h : ext f f' T T') (h2 : ext f' f'' T' T'') : ext f f'' T T'' := ⟨fun p hp => by rw [h2.1 p (by rw [h.1 p hp]; exact hp)]; exact h.1 p hp, fun p hp => by rw [h2.2 p (by rw [h.2 p hp]; exact hp)]; exact h.2 p hp⟩
theorem ext_f {p : Nat} (h : f p = none) (e : Option va_E) : ext f (va_up f p e) T T := ⟨fun q hq => va_up_other _ _ _ (fun z => hq (by rw [z]; exact h)), fun _ _ => rfl⟩
theorem ext_t {p : Nat} (h : T p = none) (e : Option (List Int32)) : ext f f T (va_up T p e) := ⟨fun _ _ => rfl, fun q hq => va_up_other _ _ _ (fun z => hq (by rw [z]; exact h))⟩
set_option maxRecDepth 100000 in
set_option maxHeartbeats 4000000 in
theorem k_rwinit (ht : tys[0]? = some (cC, .char)) {r : Nat} (h1 : f r = some (.inr (6, [.null, .int 0]))) : ct D tys z0 A (picF D cC A) l yX6_init wsX6_init ({ frames := 2, cells := 2, slots := 62, locals := 44 } : Room) [.ref r] (f, T) (qV (picF D cC A) A (fun x => ∃ n, f n = none ∧ T n = none ∧ x = (va_up f r (rwE n 0), va_up T n (some [])))) := by
  refine ct_of RX6 (by decide +kernel) rfl rfl (Nat.le_of_ble_eq_true rfl) ?_
  intro p e s m below meth c C hr hm
  refine v_lv (lv' := [(0, _)]) rfl ?_
  refine v_aload_n C dX6_init_0 (j := 0) rfl rfl ?_
  refine v_objInit C dX6_init_1 wwX6_init_oi1 wwX6_init_oim wwX6_init_oic (Nat.le_of_ble_eq_true rfl) (Nat.le_of_ble_eq_true rfl) ?_
  refine v_aload_n C dX6_init_4 (j := 0) rfl rfl ?_
  refine v_new C (T := TX10) (ci := 10) dX6_init_5 wiX6_init_X10 tyX10 tyX10_ok wwX6_init_cl7 wwX6_init_isX10 wwX6_init_inX10 rfl (by decide) (by first | exact Nat.le_of_ble_eq_true rfl | (dsimp only; omega)) (by first | exact Nat.le_of_ble_eq_true rfl | (dsimp only; omega)) (FF_new txN) (fun n hn => ?_)
  refine v_dup C dX6_init_8 rfl ?_
  refine v_cv (v_runIN C (k_tinit ht hn.1) ⟨va_cnB 0 C.1.2.2.2.2 gX6_init_X10_init_n9 rfl rfl rfl (v_nest C 7 rfl) (C.1.2.2.2.2 _ wwX6_init_in_X10_init) (by decide +kernel) ⟨Nat.le_of_ble_eq_true rfl, Nat.le_of_ble_eq_true rfl⟩, rfl, C.1.2.2.2.2 _ wwX6_init_st_X10_init⟩ rfl dX6_init_9 (rest := [_, _]) (Nat.le_of_ble_eq_true rfl) rfl ⟨(by first | exact Nat.le_of_ble_eq_true rfl | (dsimp only; omega)), (by first | exact Nat.le_of_ble_eq_true rfl | (dsimp only; omega))⟩) (fun x' hx' => ?_)
  subst hx'
  refine v_putF C (T := TX6) (ci := 6) (j := 0) (ty := (.object "FieldScribe$Text")) dX6_init_12 wiX6_init_X6 tyX6 tyX6_ok nmX6 rfl (by decide) wfX6_init_10 (fun _ h => h) rfl hm rfl rfl (rfl) (rfl) (FF_put h1 (Nat.le_of_ble_eq_true rfl)) ?_
  exact v_return C dX6_init_15 hr (Nat.le_of_ble_eq_true rfl) (Nat.le_of_ble_eq_true rfl) (⟨n, hn.1, hn.2, rfl⟩)
set_option maxRecDepth 100000 in
set_option maxHeartbeats 4000000 in
theorem k_ndinit {σ : Type} {pic : σ → Heap → Prop} {x : σ} {r : Nat} : ct D tys z0 A pic l yX3_init wsX3_init (rmL 1 24) [.ref r] x (qV pic A (fun x' => x' = x)) := by
  refine ct_of RX3 (by decide +kernel) rfl rfl (Nat.le_of_ble_eq_true rfl) ?_
  intro p e s m below meth c C hr hm
  refine v_lv (lv' := [(0, _)]) rfl ?_
  refine v_aload_n C dX3_init_0 (j := 0) rfl rfl ?_
  refine v_objInit C dX3_init_1 wwX3_init_oi1 wwX3_init_oim wwX3_init_oic (Nat.le_of_ble_eq_true rfl) (Nat.le_of_ble_eq_true rfl) ?_
  exact v_return C dX3_init_4 hr (Nat.le_of_ble_eq_true rfl) (Nat.le_of_ble_eq_true rfl) (rfl)
def lfE (x0 : Int32) : Option va_E := some (.inr (3, [.int x0]))
def fkE (op : Int32) (l1 l2 sc : Nat) : Option va_E := some (.inr (2, [.int op, .ref l1, .ref l2, .ref sc]))
def acE (kd fd : Int32) (tr cd : Nat) : Option va_E := some (.inr (1, [.int kd, .int fd, .ref tr, .ref cd]))
set_option maxRecDepth 100000 in
set_option maxHeartbeats 4000000 in
theorem k_lfinit {r : Nat} {y0 : Int32} (h1 : f r = lfE y0) (x0 : Int32) : ct D tys z0 A (picF D cC A) l yX2_init wsX2_init (rmL 2 44) [.ref r, .int x0] (f, T) (qV (picF D cC A) A (fun x => x = (va_up f r (lfE x0), T))) := by
  refine ct_of RX2 (by decide +kernel) rfl rfl (Nat.le_of_ble_eq_true rfl) ?_
  intro p e s m below meth c C hr hm
  refine v_lv (lv' := [(0, _), (1, _)]) rfl ?_
  refine v_aload_n C dX2_init_0 (j := 0) rfl rfl ?_
  refine v_cv (v_runIN C (k_ndinit) ⟨va_cnB 0 C.1.2.2.2.2 gX2_init_X3_init_n1 rfl rfl rfl (v_nest C 4 rfl) (C.1.2.2.2.2 _ wwX2_init_in_X3_init) (by decide +kernel) ⟨Nat.le_of_ble_eq_true rfl, Nat.le_of_ble_eq_true rfl⟩, rfl, C.1.2.2.2.2 _ wwX2_init_st_X3_init⟩ rfl dX2_init_1 (rest := []) (Nat.le_of_ble_eq_true rfl) rfl ⟨(by first | exact Nat.le_of_ble_eq_true rfl | (dsimp only; omega)), (by first | exact Nat.le_of_ble_eq_true rfl | (dsimp only; omega))⟩) (fun x' hx' => ?_)
  subst hx'
  refine v_aload_n C dX2_init_4 (j := 0) rfl rfl ?_
  refine v_iload_n C dX2_init_5 (j := 1) rfl rfl ?_
  refine v_putF C (T := TX2) (ci := 3) (j := 0) (ty := .int) dX2_init_6 wiX2_init_X2 tyX2 tyX2_ok nmX2 rfl (by decide) wfX2_init_7 (fun _ h => h) rfl hm rfl rfl (rfl) (rfl) (FF_put h1 (Nat.le_of_ble_eq_true rfl)) ?_
  exact v_return C dX2_init_9 hr (Nat.le_of_ble_eq_true rfl) (Nat.le_of_ble_eq_true rfl) (rfl)
set_option maxRecDepth 100000 in
set_option maxHeartbeats 4000000 in
theorem k_fkinit (ht : tys[0]? = some (cC, .char)) {r l1 l2 : Nat} (h1 : f r = some (.inr (2, [.int 0, .null, .null, .null]))) (op : Int32) : ct D tys z0 A (picF D cC A) l yX1_init wsX1_init ({ frames := 2, cells := 2, slots := 62, locals := 44 } : Room) [.ref r, .int op, .ref l1, .ref l2] (f, T) (qV (picF D cC A) A (fun x => ∃ n, f n = none ∧ T n = none ∧ x = (va_up f r (fkE op l1 l2 n), va_up T n (some [])))) := by
  refine ct_of RX1 (by decide +kernel) rfl rfl (Nat.le_of_ble_eq_true rfl) ?_
  intro p e s m below meth c C hr hm
  refine v_lv (lv' := [(0, _), (1, _), (2, _), (3, _)]) rfl ?_
  refine v_aload_n C dX1_init_0 (j := 0) rfl rfl ?_
  refine v_cv (v_runIN C (k_ndinit) ⟨va_cnB 0 C.1.2.2.2.2 gX1_init_X3_init_n1 rfl rfl rfl (v_nest C 1 rfl) (C.1.2.2.2.2 _ wwX1_init_in_X3_init) (by decide +kernel) ⟨Nat.le_of_ble_eq_true rfl, Nat.le_of_ble_eq_true rfl⟩, rfl, C.1.2.2.2.2 _ wwX1_init_st_X3_init⟩ rfl dX1_init_1 (rest := []) (Nat.le_of_ble_eq_true rfl) rfl ⟨(by first | exact Nat.le_of_ble_eq_true rfl | (dsimp only; omega)), (by first | exact Nat.le_of_ble_eq_true rfl | (dsimp only; omega))⟩) (fun x' hx' => ?_)
  subst hx'
  refine v_aload_n C dX1_init_4 (j := 0) rfl rfl ?_
  refine v_new C (T := TX10) (ci := 10) dX1_init_5 wiX1_init_X10 tyX10 tyX10_ok wwX1_init_cl7 wwX1_init_isX10 wwX1_init_inX10 rfl (by decide) (by first | exact Nat.le_of_ble_eq_true rfl | (dsimp only; omega)) (by first | exact Nat.le_of_ble_eq_true rfl | (dsimp only; omega)) (FF_new txN) (fun n hn => ?_)
  refine v_dup C dX1_init_8 rfl ?_
  refine v_cv (v_runIN C (k_tinit ht hn.1) ⟨va_cnB 0 C.1.2.2.2.2 gX1_init_X10_init_n9 rfl rfl rfl (v_nest C 3 rfl) (C.1.2.2.2.2 _ wwX1_init_in_X10_init) (by decide +kernel) ⟨Nat.le_of_ble_eq_true rfl, Nat.le_of_ble_eq_true rfl⟩, rfl, C.1.2.2.2.2 _ wwX1_init_st_X10_init⟩ rfl dX1_init_9 (rest := [_, _]) (Nat.le_of_ble_eq_true rfl) rfl ⟨(by first | exact Nat.le_of_ble_eq_true rfl | (dsimp only; omega)), (by first | exact Nat.le_of_ble_eq_true rfl | (dsimp only; omega))⟩) (fun x' hx' => ?_)
  subst hx'
  refine v_putF C (T := TX1) (ci := 2) (j := 3) (ty := (.object "FieldScribe$Text")) dX1_init_12 wiX1_init_X1 tyX1 tyX1_ok nmX1 rfl (by decide) wfX1_init_10 (fun _ h => h) rfl hm rfl rfl (rfl) (rfl) (FF_put h1 (Nat.le_of_ble_eq_true rfl)) ?_
  refine v_aload_n C dX1_init_15 (j := 0) rfl rfl ?_
  refine v_iload_n C dX1_init_16 (j := 1) rfl rfl ?_
  refine v_putF C (T := TX1) (ci := 2) (j := 0) (ty := .int) dX1_init_17 wiX1_init_X1 tyX1 tyX1_ok nmX1 rfl (by decide) wfX1_init_16 (fun _ h => h) rfl hm rfl rfl (rfl) (rfl) (FF_put (va_up_same _ _ _) (Nat.le_of_ble_eq_true rfl)) ?_
  refine v_aload_n C dX1_init_20 (j := 0) rfl rfl ?_
  refine v_aload_n C dX1_init_21 (j := 2) rfl rfl ?_
  refine v_putF C (T := TX1) (ci := 2) (j := 1) (ty := (.object "FieldScribe$Leaf")) dX1_init_22 wiX1_init_X1 tyX1 tyX1_ok nmX1 rfl (by decide) wfX1_init_20 (fun _ h => h) rfl hm rfl rfl (rfl) (rfl) (FF_put (va_up_same _ _ _) (Nat.le_of_ble_eq_true rfl)) ?_
  refine v_aload_n C dX1_init_25 (j := 0) rfl rfl ?_
  refine v_aload_n C dX1_init_26 (j := 3) rfl rfl ?_
  refine v_putF C (T := TX1) (ci := 2) (j := 2) (ty := (.object "FieldScribe$Leaf")) dX1_init_27 wiX1_init_X1 tyX1 tyX1_ok nmX1 rfl (by decide) wfX1_init_24 (fun _ h => h) rfl hm rfl rfl (rfl) (rfl) (FF_put (va_up_same _ _ _) (Nat.le_of_ble_eq_true rfl)) ?_
  exact v_return C dX1_init_30 hr (Nat.le_of_ble_eq_true rfl) (Nat.le_of_ble_eq_true rfl) (⟨n, hn.1, hn.2, by rw [up_up, up_up, up_up]; rfl⟩)
set_option maxRecDepth 100000 in
set_option maxHeartbeats 4000000 in
theorem k_acinit2 {r tr cd : Nat} (h1 : f r = some (.inr (1, [.int 0, .int 0, .null, .null]))) (kd fd : Int32) : ct D tys z0 A (picF D cC A) l yX0_init wsX0_init (rmL 1 24) [.ref r, .int kd, .int fd, .ref tr, .ref cd] (f, T) (qV (picF D cC A) A (fun x => x = (va_up f r (acE kd fd tr cd), T))) := by
  refine ct_of RX0 (by decide +kernel) rfl rfl (Nat.le_of_ble_eq_true rfl) ?_
  intro p e s m below meth c C hr hm
  refine v_lv (lv' := [(0, _), (1, _), (2, _), (3, _), (4, _)]) rfl ?_
  refine v_aload_n C dX0_init_0 (j := 0) rfl rfl ?_
  refine v_objInit C dX0_init_1 wwX0_init_oi1 wwX0_init_oim wwX0_init_oic (Nat.le_of_ble_eq_true rfl) (Nat.le_of_ble_eq_true rfl) ?_
  refine v_aload_n C dX0_init_4 (j := 0) rfl rfl ?_
  refine v_iload_n C dX0_init_5 (j := 1) rfl rfl ?_
  refine v_putF C (T := TX0) (ci := 1) (j := 0) (ty := .int) dX0_init_6 wiX0_init_X0 tyX0 tyX0_ok nmX0 rfl (by decide) wfX0_init_7 (fun _ h => h) rfl hm rfl rfl (rfl) (rfl) (FF_put h1 (Nat.le_of_ble_eq_true rfl)) ?_
  refine v_aload_n C dX0_init_9 (j := 0) rfl rfl ?_
  refine v_iload_n C dX0_init_10 (j := 2) rfl rfl ?_
  refine v_putF C (T := TX0) (ci := 1) (j := 1) (ty := .int) dX0_init_11 wiX0_init_X0 tyX0 tyX0_ok nmX0 rfl (by decide) wfX0_init_13 (fun _ h => h) rfl hm rfl rfl (rfl) (rfl) (FF_put (va_up_same _ _ _) (Nat.le_of_ble_eq_true rfl)) ?_
  refine v_aload_n C dX0_init_14 (j := 0) rfl rfl ?_
  refine v_aload_n C dX0_init_15 (j := 3) rfl rfl ?_
  refine v_putF C (T := TX0) (ci := 1) (j := 2) (ty := (.object "FieldScribe$Node")) dX0_init_16 wiX0_init_X0 tyX0 tyX0_ok nmX0 rfl (by decide) wfX0_init_16 (fun _ h => h) rfl hm rfl rfl (rfl) (rfl) (FF_put (va_up_same _ _ _) (Nat.le_of_ble_eq_true rfl)) ?_
  refine v_aload_n C dX0_init_19 (j := 0) rfl rfl ?_
  refine v_aload C dX0_init_20 (j := 4) rfl ?_
  refine v_putF C (T := TX0) (ci := 1) (j := 3) (ty := (.array .int)) dX0_init_22 wiX0_init_X0 tyX0 tyX0_ok nmX0 rfl (by decide) wfX0_init_20 (fun _ h => h) rfl hm rfl rfl (rfl) (rfl) (FF_put (va_up_same _ _ _) (Nat.le_of_ble_eq_true rfl)) ?_
  exact v_return C dX0_init_25 hr (Nat.le_of_ble_eq_true rfl) (Nat.le_of_ble_eq_true rfl) (by rw [up_up, up_up, up_up]; rfl)
set_option maxRecDepth 100000 in
set_option maxHeartbeats 4000000 in
theorem k_ruinit {r : Nat} (h1 : f r = some (.inr (7, [.int 0, .int 0, .int 0, .null, .int 0]))) (pat a b : Int32) : ct D tys z0 A (picF D cC A) l yX7_init wsX7_init ({ frames := 4, cells := 1, slots := 3, locals := 84 } : Room) [.ref r, .int pat, .int a, .int b] (f, T) (qV (picF D cC A) A (fun x => ∃ al, f al = none ∧ T al = none ∧ x = (va_up (va_up f al (alE 0 (some z0) 0)) r (ruE pat a b al false), T))) := by
  refine ct_of RX7 (by decide +kernel) rfl rfl (Nat.le_of_ble_eq_true rfl) ?_
  intro p e s m below meth c C hr hm
  refine v_lv (lv' := [(0, _), (1, _), (2, _), (3, _)]) rfl ?_
  refine v_aload_n C dX7_init_0 (j := 0) rfl rfl ?_
  refine v_objInit C dX7_init_1 wwX7_init_oi3 wwX7_init_oim wwX7_init_oic (Nat.le_of_ble_eq_true rfl) (Nat.le_of_ble_eq_true rfl) ?_
  refine v_aload_n C dX7_init_4 (j := 0) rfl rfl ?_
  refine v_new C (T := TJx4a65c) (ci := 0) dX7_init_5 wiX7_init_Jx4a65c tyJx4a65c tyJx4a65c_ok wwX7_init_cl9 wwX7_init_isJx4a65c wwX7_init_inJx4a65c rfl (by decide) (by first | exact Nat.le_of_ble_eq_true rfl | (dsimp only; omega)) (by first | exact Nat.le_of_ble_eq_true rfl | (dsimp only; omega)) (FF_new (.inr (0, [.int 0, .null, .int 0]))) (fun al hn => ?_)
  refine v_dup C dX7_init_8 rfl ?_
  refine v_cv (v_runI C (k_linit (va_up_same _ _ _)) (cwI 0 C.1.2.2.2.2 gX7_init_Jx4a65c_init_da8c8 rfl rfl rfl (C.1.2.2.2.2 _ wwX7_init_in_Jx4a65c_init_da8c8) (C.1.2.2.2.2 _ wwX7_init_ml11) (C.1.2.2.2.2 _ wwX7_init_im_Jx4a65c_init_da8c8) rfl (by decide +kernel) ⟨Nat.le_of_ble_eq_true rfl, Nat.le_of_ble_eq_true rfl⟩) rfl dX7_init_9 (rest := [_, _]) (Nat.le_of_ble_eq_true rfl) rfl ⟨(by first | exact Nat.le_of_ble_eq_true rfl | (dsimp only; omega)), (by first | exact Nat.le_of_ble_eq_true rfl | (dsimp only; omega))⟩) (fun x' hx' => ?_)
  subst hx'
  have hra : r ≠ al := fun z => by rw [← z, h1] at hn; cases hn.1
  refine v_x (x' := (va_up f al (alE 0 (some z0) 0), T)) (fun H hP => by rw [up_up] at hP; exact hP) ?_
  have h1' : va_up f al (alE 0 (some z0) 0) r = some (.inr (7, [.int 0, .int 0, .int 0, .null, .int 0])) := by rw [va_up_other _ _ _ hra]; exact h1
  refine v_putF C (T := TX7) (ci := 7) (j := 3) (ty := (.object "java/util/ArrayList")) dX7_init_12 wiX7_init_X7 tyX7 tyX7_ok nmX7 rfl (by decide) wfX7_init_12 (fun _ h => h) rfl hm rfl rfl (rfl) (rfl) (FF_put h1' (Nat.le_of_ble_eq_true rfl)) ?_
  refine v_aload_n C dX7_init_15 (j := 0) rfl rfl ?_
  refine v_iload_n C dX7_init_16 (j := 1) rfl rfl ?_
  refine v_putF C (T := TX7) (ci := 7) (j := 0) (ty := .int) dX7_init_17 wiX7_init_X7 tyX7 tyX7_ok nmX7 rfl (by decide) wfX7_init_18 (fun _ h => h) rfl hm rfl rfl (rfl) (rfl) (FF_put (va_up_same _ _ _) (Nat.le_of_ble_eq_true rfl)) ?_
  refine v_aload_n C dX7_init_20 (j := 0) rfl rfl ?_
  refine v_iload_n C dX7_init_21 (j := 2) rfl rfl ?_
  refine v_putF C (T := TX7) (ci := 7) (j := 1) (ty := .int) dX7_init_22 wiX7_init_X7 tyX7 tyX7_ok nmX7 rfl (by decide) wfX7_init_22 (fun _ h => h) rfl hm rfl rfl (rfl) (rfl) (FF_put (va_up_same _ _ _) (Nat.le_of_ble_eq_true rfl)) ?_
  refine v_aload_n C dX7_init_25 (j := 0) rfl rfl ?_
  refine v_iload_n C dX7_init_26 (j := 3) rfl rfl ?_
  refine v_putF C (T := TX7) (ci := 7) (j := 2) (ty := .int) dX7_init_27 wiX7_init_X7 tyX7 tyX7_ok nmX7 rfl (by decide) wfX7_init_25 (fun _ h => h) rfl hm rfl rfl (rfl) (rfl) (FF_put (va_up_same _ _ _) (Nat.le_of_ble_eq_true rfl)) ?_
  exact v_return C dX7_init_30 hr (Nat.le_of_ble_eq_true rfl) (Nat.le_of_ble_eq_true rfl) (⟨al, hn.1, hn.2, by rw [up_up, up_up, up_up]; rfl⟩)
/-- the tree of an expression -/
def trI (f : Nat → Option va_E) (T : Nat → Option (List Int32)) (op x0 y0 : Int32) (tr sc : Nat) : Prop := if op = 0 then f tr = lfE x0 else ∃ l1 l2, f tr = fkE op l1 l2 sc ∧ f l1 = lfE x0 ∧ f l2 = lfE y0 ∧ ∃ s, T sc = some s
set_option maxRecDepth 100000 in
set_option maxHeartbeats 4000000 in
theorem k_treeOf (ht : tys[0]? = some (cC, .char)) (op x0 y0 : Int32) : ct D tys z0 A (picF D cC A) l yX11_treeOf wsX11_treeOf ({ frames := 3, cells := 5, slots := 68, locals := 67 } : Room) [.int op, .int x0, .int y0] (f, T) (qR (picF D cC A) A (fun tr x => f tr = none ∧ ∃ sc f' T', x = (f', T') ∧ trI f' T' op x0 y0 tr sc ∧ ext f f' T T' ∧ (op ≠ 0 → T sc = none) ∧ ∀ p, (p = sc → op = 0) → T' p = T p)) := by
  refine ct_of RX11 (by decide +kernel) rfl rfl (Nat.le_of_ble_eq_true rfl) ?_
  intro p e s m below meth c C hr hm
  refine v_lv (lv' := [(0, _), (1, _), (2, _)]) rfl ?_
  refine v_iload_n C dX11_treeOf_0 (j := 0) rfl rfl ?_
  refine v_if_ne C 13 dX11_treeOf_1 (by decide) (fun c1 => ?_) (fun c1 => ?_)
  · skip
    refine v_new C (T := TX1) (ci := 2) dX11_treeOf_13 wiX11_treeOf_X1 tyX1 tyX1_ok wwX11_treeOf_cl263 wwX11_treeOf_isX1 wwX11_treeOf_inX1 rfl (by decide) (by first | exact Nat.le_of_ble_eq_true rfl | (dsimp only; omega)) (by first | exact Nat.le_of_ble_eq_true rfl | (dsimp only; omega)) (FF_new (.inr (2, [.int 0, .null, .null, .null]))) (fun fk hk => ?_)
    refine v_dup C dX11_treeOf_16 rfl ?_
    refine v_iload_n C dX11_treeOf_17 (j := 0) rfl rfl ?_
    refine v_new C (T := TX2) (ci := 3) dX11_treeOf_18 wiX11_treeOf_X2 tyX2 tyX2_ok wwX11_treeOf_cl259 wwX11_treeOf_isX2 wwX11_treeOf_inX2 rfl (by decide) (by first | exact Nat.le_of_ble_eq_true rfl | (dsimp only; omega)) (by first | exact Nat.le_of_ble_eq_true rfl | (dsimp only; omega)) (FF_new (.inr (3, [.int 0]))) (fun l1 h1 => ?_)
    refine v_dup C dX11_treeOf_21 rfl ?_
    refine v_iload_n C dX11_treeOf_22 (j := 1) rfl rfl ?_
    refine v_cv (v_runI C (k_lfinit (va_up_same _ _ _) x0) (cwI 1 C.1.2.2.2.2 gX11_treeOf_X2_init rfl rfl rfl (C.1.2.2.2.2 _ wwX11_treeOf_in_X2_init) (C.1.2.2.2.2 _ wwX11_treeOf_ml261) (C.1.2.2.2.2 _ wwX11_treeOf_im_X2_init) rfl (by decide +kernel) ⟨Nat.le_of_ble_eq_true rfl, Nat.le_of_ble_eq_true rfl⟩) rfl dX11_treeOf_23 (rest := [_, _, _, _]) (Nat.le_of_ble_eq_true rfl) rfl ⟨(by first | exact Nat.le_of_ble_eq_true rfl | (dsimp only; omega)), (by first | exact Nat.le_of_ble_eq_true rfl | (dsimp only; omega))⟩) (fun x' hx' => ?_)
    subst hx'
    refine v_new C (T := TX2) (ci := 3) dX11_treeOf_26 wiX11_treeOf_X2 tyX2 tyX2_ok wwX11_treeOf_cl259 wwX11_treeOf_isX2 wwX11_treeOf_inX2 rfl (by decide) (by first | exact Nat.le_of_ble_eq_true rfl | (dsimp only; omega)) (by first | exact Nat.le_of_ble_eq_true rfl | (dsimp only; omega)) (FF_new (.inr (3, [.int 0]))) (fun l2 h2 => ?_)
    refine v_dup C dX11_treeOf_29 rfl ?_
    refine v_iload_n C dX11_treeOf_30 (j := 2) rfl rfl ?_
    refine v_cv (v_runI C (k_lfinit (va_up_same _ _ _) y0) (cwI 1 C.1.2.2.2.2 gX11_treeOf_X2_init rfl rfl rfl (C.1.2.2.2.2 _ wwX11_treeOf_in_X2_init) (C.1.2.2.2.2 _ wwX11_treeOf_ml261) (C.1.2.2.2.2 _ wwX11_treeOf_im_X2_init) rfl (by decide +kernel) ⟨Nat.le_of_ble_eq_true rfl, Nat.le_of_ble_eq_true rfl⟩) rfl dX11_treeOf_31 (rest := [_, _, _, _, _]) (Nat.le_of_ble_eq_true rfl) rfl ⟨(by first | exact Nat.le_of_ble_eq_true rfl | (dsimp only; omega)), (by first | exact Nat.le_of_ble_eq_true rfl | (dsimp only; omega))⟩) (fun x' hx' => ?_)
    subst hx'
    refine v_x (x' := (va_up (va_up (va_up f fk (some (.inr (2, [.int 0, .null, .null, .null])))) l1 (lfE x0)) l2 (lfE y0), T)) (fun H hP => by rw [up_up, up_up] at hP; exact hP) ?_
    rw [up_up] at h2
    have d1 : fk ≠ l1 := fun z => by rw [← z, va_up_same] at h1; cases h1.1
    have d2 : l1 ≠ l2 := fun z => by rw [← z, va_up_same] at h2; cases h2.1
    have d3 : fk ≠ l2 := fun z => by rw [← z, va_up_other _ _ _ d1, va_up_same] at h2; cases h2.1
    refine v_cv (v_runI C (k_fkinit ht (by rw [va_up_other _ _ _ d3, va_up_other _ _ _ d1, va_up_same]) op) (cwI 3 C.1.2.2.2.2 gX11_treeOf_X1_init rfl rfl rfl (C.1.2.2.2.2 _ wwX11_treeOf_in_X1_init) (C.1.2.2.2.2 _ wwX11_treeOf_ml265) (C.1.2.2.2.2 _ wwX11_treeOf_im_X1_init) rfl (by decide +kernel) ⟨Nat.le_of_ble_eq_true rfl, Nat.le_of_ble_eq_true rfl⟩) rfl dX11_treeOf_34 (rest := [_]) (Nat.le_of_ble_eq_true rfl) rfl ⟨(by first | exact Nat.le_of_ble_eq_true rfl | (dsimp only; omega)), (by first | exact Nat.le_of_ble_eq_true rfl | (dsimp only; omega))⟩) (fun x' hx' => ?_)
    obtain ⟨n, hn1, hn2, rfl⟩ := hx'
    rw [va_up_other _ _ _ (Ne.symm d2), va_up_other _ _ _ (Ne.symm d3)] at h2
    rw [va_up_other _ _ _ (Ne.symm d1)] at h1
    exact v_areturn C dX11_treeOf_37 hr (Or.inl ⟨_, rfl⟩) (Nat.le_of_ble_eq_true rfl) (Nat.le_of_ble_eq_true rfl) (⟨hk.1, n, _, _, rfl, by unfold trI; rw [if_neg c1]; exact ⟨l1, l2, va_up_same _ _ _, by rw [va_up_other _ _ _ (Ne.symm d1), va_up_other _ _ _ d2, va_up_same], by rw [va_up_other _ _ _ (Ne.symm d3), va_up_same], [], va_up_same _ _ _⟩, ⟨fun p hp => by have p1 : p ≠ fk := fun z => hp (by rw [z]; exact hk.1); have p2 : p ≠ l1 := fun z => hp (by rw [z]; exact h1.1); have p3 : p ≠ l2 := fun z => hp (by rw [z]; exact h2.1); rw [va_up_other _ _ _ p1, va_up_other _ _ _ p3, va_up_other _ _ _ p2, va_up_other _ _ _ p1], fun p hp => va_up_other _ _ _ (fun z => hp (by rw [z]; exact hn2))⟩, fun _ => hn2, fun p hp => va_up_other _ _ _ (fun z => c1 (hp z))⟩)
  · skip
    refine v_new C (T := TX2) (ci := 3) dX11_treeOf_4 wiX11_treeOf_X2 tyX2 tyX2_ok wwX11_treeOf_cl259 wwX11_treeOf_isX2 wwX11_treeOf_inX2 rfl (by decide) (by first | exact Nat.le_of_ble_eq_true rfl | (dsimp only; omega)) (by first | exact Nat.le_of_ble_eq_true rfl | (dsimp only; omega)) (FF_new (.inr (3, [.int 0]))) (fun l1 h1 => ?_)
    refine v_dup C dX11_treeOf_7 rfl ?_
    refine v_iload_n C dX11_treeOf_8 (j := 1) rfl rfl ?_
    refine v_cv (v_runI C (k_lfinit (va_up_same _ _ _) x0) (cwI 1 C.1.2.2.2.2 gX11_treeOf_X2_init rfl rfl rfl (C.1.2.2.2.2 _ wwX11_treeOf_in_X2_init) (C.1.2.2.2.2 _ wwX11_treeOf_ml261) (C.1.2.2.2.2 _ wwX11_treeOf_im_X2_init) rfl (by decide +kernel) ⟨Nat.le_of_ble_eq_true rfl, Nat.le_of_ble_eq_true rfl⟩) rfl dX11_treeOf_9 (rest := [_]) (Nat.le_of_ble_eq_true rfl) rfl ⟨(by first | exact Nat.le_of_ble_eq_true rfl | (dsimp only; omega)), (by first | exact Nat.le_of_ble_eq_true rfl | (dsimp only; omega))⟩) (fun x' hx' => ?_)
    subst hx'
    exact v_areturn C dX11_treeOf_12 hr (Or.inl ⟨_, rfl⟩) (Nat.le_of_ble_eq_true rfl) (Nat.le_of_ble_eq_true rfl) (⟨h1.1, 0, _, _, rfl, by unfold trI; rw [if_pos c1, va_up_same], ⟨fun p hp => by have p2 : p ≠ l1 := fun z => hp (by rw [z]; exact h1.1); rw [va_up_other _ _ _ p2, va_up_other _ _ _ p2], fun _ _ => rfl⟩, fun h => absurd c1 h, fun _ _ => rfl⟩)
set_option maxRecDepth 100000 in
set_option maxHeartbeats 4000000 in
theorem k_codeOf (ht1 : tys[1]? = some (cI, .int)) (op x0 y0 : Int32) : ct D tys z0 A (picF D cC A) l yX11_codeOf wsX11_codeOf ({ frames := 0, cells := 1, slots := 6, locals := 0 } : Room) [.int op, .int x0, .int y0] (f, T) (qR (picF D cC A) A (fun cd x => f cd = none ∧ T cd = none ∧ x = (va_up f cd (some (cdE cI op x0 y0)), T))) := by
  refine ct_of RX11 (by decide +kernel) rfl rfl (Nat.le_of_ble_eq_true rfl) ?_
  intro p e s m below meth c C hr hm
  refine v_lv (lv' := [(0, _), (1, _), (2, _)]) rfl ?_
  refine v_iload_n C dX11_codeOf_0 (j := 0) rfl rfl ?_
  refine v_if_ne C 16 dX11_codeOf_1 (by decide) (fun c1 => ?_) (fun c1 => ?_)
  · skip
    refine v_bipush C dX11_codeOf_16 (v := 6) (by decide) ?_
    refine v_newa C (N := 6) (a0 := (6, .inl (fun _ => 0))) (atype := .int) dX11_codeOf_18 wwX11_codeOf_acint 1 ht1 rfl (by first | exact vp_cell_i _ _ _ | rfl) (by decide) (by decide) (Nat.le_of_ble_eq_true rfl) (by first | exact Nat.le_of_ble_eq_true rfl | (dsimp only; omega)) (by first | exact Nat.le_of_ble_eq_true rfl | (dsimp only; omega)) (FF_new _) (fun cd hq => ?_)
    refine v_dup C dX11_codeOf_20 rfl ?_
    refine v_iconst C dX11_codeOf_21 (v := 0) (by decide) ?_
    refine v_iconst C dX11_codeOf_22 (v := 0) (by decide) ?_
    refine v_iast C dX11_codeOf_23 1 ht1 (by unfold vp_in; decide) (FF_arrset (va_up_same _ _ _)) ?_
    refine v_dup C dX11_codeOf_24 rfl ?_
    refine v_iconst C dX11_codeOf_25 (v := 1) (by decide) ?_
    refine v_iload_n C dX11_codeOf_26 (j := 1) rfl rfl ?_
    refine v_iast C dX11_codeOf_27 1 ht1 (by unfold vp_in; decide) (FF_arrset (va_up_same _ _ _)) ?_
    refine v_dup C dX11_codeOf_28 rfl ?_
    refine v_iconst C dX11_codeOf_29 (v := 2) (by decide) ?_
    refine v_iconst C dX11_codeOf_30 (v := 0) (by decide) ?_
    refine v_iast C dX11_codeOf_31 1 ht1 (by unfold vp_in; decide) (FF_arrset (va_up_same _ _ _)) ?_
    refine v_dup C dX11_codeOf_32 rfl ?_
    refine v_iconst C dX11_codeOf_33 (v := 3) (by decide) ?_
    refine v_iload_n C dX11_codeOf_34 (j := 2) rfl rfl ?_
    refine v_iast C dX11_codeOf_35 1 ht1 (by unfold vp_in; decide) (FF_arrset (va_up_same _ _ _)) ?_
    refine v_dup C dX11_codeOf_36 rfl ?_
    refine v_iconst C dX11_codeOf_37 (v := 4) (by decide) ?_
    refine v_iload_n C dX11_codeOf_38 (j := 0) rfl rfl ?_
    refine v_iast C dX11_codeOf_39 1 ht1 (by unfold vp_in; decide) (FF_arrset (va_up_same _ _ _)) ?_
    refine v_dup C dX11_codeOf_40 rfl ?_
    refine v_iconst C dX11_codeOf_41 (v := 5) (by decide) ?_
    refine v_iconst C dX11_codeOf_42 (v := 0) (by decide) ?_
    refine v_iast C dX11_codeOf_43 1 ht1 (by unfold vp_in; decide) (FF_arrset (va_up_same _ _ _)) ?_
    exact v_areturn C dX11_codeOf_44 hr (Or.inr ⟨_, rfl⟩) (Nat.le_of_ble_eq_true rfl) (Nat.le_of_ble_eq_true rfl) (⟨hq.1, hq.2, by unfold cdE; rw [up_up, up_up, up_up, up_up, up_up, up_up, if_neg c1]; rfl⟩)
  · skip
    refine v_iconst C dX11_codeOf_4 (v := 2) (by decide) ?_
    refine v_newa C (N := 2) (a0 := (2, .inl (fun _ => 0))) (atype := .int) dX11_codeOf_5 wwX11_codeOf_acint 1 ht1 rfl (by first | exact vp_cell_i _ _ _ | rfl) (by decide) (by decide) (Nat.le_of_ble_eq_true rfl) (by first | exact Nat.le_of_ble_eq_true rfl | (dsimp only; omega)) (by first | exact Nat.le_of_ble_eq_true rfl | (dsimp only; omega)) (FF_new _) (fun cd hq => ?_)
    refine v_dup C dX11_codeOf_7 rfl ?_
    refine v_iconst C dX11_codeOf_8 (v := 0) (by decide) ?_
    refine v_iconst C dX11_codeOf_9 (v := 0) (by decide) ?_
    refine v_iast C dX11_codeOf_10 1 ht1 (by unfold vp_in; decide) (FF_arrset (va_up_same _ _ _)) ?_
    refine v_dup C dX11_codeOf_11 rfl ?_
    refine v_iconst C dX11_codeOf_12 (v := 1) (by decide) ?_
    refine v_iload_n C dX11_codeOf_13 (j := 1) rfl rfl ?_
    refine v_iast C dX11_codeOf_14 1 ht1 (by unfold vp_in; decide) (FF_arrset (va_up_same _ _ _)) ?_
    exact v_areturn C dX11_codeOf_15 hr (Or.inr ⟨_, rfl⟩) (Nat.le_of_ble_eq_true rfl) (Nat.le_of_ble_eq_true rfl) (⟨hq.1, hq.2, by unfold cdE; rw [up_up, up_up, if_pos c1]; rfl⟩)
end MK
