/-! ===== what constructors make ===== -/
theorem wwX10_init_oi3 : Cond.methodLink RX10 3 Lib.objectInit ∈ wsX10_init := by decide +kernel
theorem wwX10_init_oim : Cond.instanceMethod Lib.objectInit ∈ wsX10_init := by decide +kernel
theorem wwX10_init_oic : Cond.code Lib.objectInit ⟨#[0xb1]⟩ 1 none ∈ wsX10_init := by decide +kernel
theorem wwX10_init_acchar : Cond.arrayClass (newarray.typeOf .char) ∈ wsX10_init := by decide +kernel
theorem wfX10_init_9 : Cond.fieldLink RX10 9 "FieldScribe$Text" (TX10 0).2.1 (TX10 0).2.2.1 ∈ wsX10_init := by decide +kernel
theorem wiX10_init_X10 : ∀ w ∈ u_ws RX10 TX10 2, w ∈ wsX10_init := by decide +kernel
section MK
variable {l : Launch} {D : va_G} {tys : List (ClassId × FieldType)} {z0 : Nat} {A : Nat → Prop} {cC cT cI : ClassId} {f : Nat → Option va_E} {T : Nat → Option (List Int32)} {t a o : Nat}
theorem FF_adopt (h1 : f t = some (.inr (10, [.ref a, .int 0]))) (h2 : f a = some (.inl (cC, 60, .inl (fun _ => 0)))) {H : Heap} (hP : picF D cC A (f, T) H) : picF D cC A (va_up (va_up f t none) a none, va_up T t (some [])) H := by
  obtain ⟨ar, ln, g, hr, h4, h5, h6, h7⟩ := hP
  dsimp only at hr h4 h5 h6 h7
  have hta : a ≠ t := fun z => by rw [z, h1] at h2; cases h2
  have a1 : ar a = none := by
    cases h : ar a with
    | none => rfl
    | some b => have := (h7 a b h).2.1; rw [h2] at this; cases this
  have a2 : ar t = none := by
    cases h : ar t with
    | none => rfl
    | some b => have := (h7 t b h).2.1; rw [h1] at this; cases this
  have a3 : ∀ t', ar t' ≠ some a := fun t' h => by have := (h7 t' a h).2.2; rw [h2] at this; cases this
  have a4 : ∀ t', ar t' ≠ some t := fun t' h => by have := (h7 t' t h).2.2; rw [h1] at this; cases this
  have up0 : ∀ q e, va_up (va_up f t none) a none q = some e → f q = some e := fun q e h => by
    by_cases q1 : q = a
    · rw [q1, va_up_same] at h; cases h
    · rw [va_up_other _ _ _ q1] at h
      by_cases q2 : q = t
      · rw [q2, va_up_same] at h; cases h
      · rw [va_up_other _ _ _ q2] at h; exact h
  have up1 : ∀ q, f q = none → va_up (va_up f t none) a none q = none := fun q h => by
    by_cases q1 : q = a
    · rw [q1, va_up_same]
    · rw [va_up_other _ _ _ q1]
      by_cases q2 : q = t
      · rw [q2, va_up_same]
      · rw [va_up_other _ _ _ q2]; exact h
  refine ⟨va_up ar t (some a), va_up ln t 0, va_up g t (fun _ => 0), ⟨fun t' => ?_, fun t' b j h hj => ?_⟩, fun q e h => h4 q e (up0 q e h), fun t' b h => ?_, fun t' t'' b h h' => ?_, fun t' b h => ?_⟩
  · show va_up T t (some []) t' = (va_up ar t (some a) t').map (fun _ => sl (va_up g t (fun _ => 0) t') (va_up ln t 0 t'))
    by_cases q : t' = t
    · subst q; rw [va_up_same, va_up_same, va_up_same, va_up_same]; rfl
    · rw [va_up_other _ _ _ q, va_up_other _ _ _ q, va_up_other _ _ _ q, va_up_other _ _ _ q]; exact hr.1 t'
  · by_cases q : t' = t
    · subst q; rw [va_up_same] at hj; cases hj
    · rw [va_up_other _ _ _ q] at h hj ⊢; exact hr.2 t' b j h hj
  · dsimp only at h ⊢
    by_cases q : t' = t
    · subst q
      rw [va_up_same] at h
      cases h
      rw [va_up_same, va_up_same]
      exact ⟨(h4 _ _ h1).1, (h4 _ _ h2).1, (h4 _ _ h1).2, (h4 _ _ h2).2, by decide⟩
    · rw [va_up_other _ _ _ q] at h ⊢
      rw [va_up_other _ _ _ q]
      exact h5 t' b h
  · dsimp only at h h'
    by_cases q : t' = t
    · by_cases q2 : t'' = t
      · rw [q, q2]
      · subst q
        rw [va_up_same] at h
        cases h
        rw [va_up_other _ _ _ q2] at h'
        exact absurd h' (a3 _)
    · rw [va_up_other _ _ _ q] at h
      by_cases q2 : t'' = t
      · subst q2
        rw [va_up_same] at h'
        cases h'
        exact absurd h (a3 _)
      · rw [va_up_other _ _ _ q2] at h'
        exact h6 t' t'' b h h'
  · dsimp only at h ⊢
    by_cases q : t' = t
    · subst q
      rw [va_up_same] at h
      cases h
      exact ⟨by rw [va_up_other _ _ _ hta]; exact a1, by rw [va_up_other _ _ _ (Ne.symm hta), va_up_same], va_up_same _ _ _⟩
    · rw [va_up_other _ _ _ q] at h
      obtain ⟨b1, b2, b3⟩ := h7 t' b h
      exact ⟨by rw [va_up_other _ _ _ (fun z => a4 t' (by rw [← z]; exact h))]; exact b1, up1 _ b2, up1 _ b3⟩
abbrev txN : va_E := .inr (10, [.null, .int 0])
set_option maxRecDepth 100000 in
set_option maxHeartbeats 4000000 in
theorem k_tinit (ht : tys[0]? = some (cC, .char)) (ht0 : f t = none) : ct D tys z0 A (picF D cC A) l yX10_init wsX10_init ({ frames := 1, cells := 1, slots := 60, locals := 24 } : Room) [.ref t] (va_up f t (some txN), T) (qV (picF D cC A) A (fun x => x = (f, va_up T t (some [])))) := by
  refine ct_of RX10 (by decide +kernel) rfl rfl (Nat.le_of_ble_eq_true rfl) ?_
  intro p e s m below meth c C hr hm
  refine v_lv (lv' := [(0, _)]) rfl ?_
  refine v_aload_n C dX10_init_0 (j := 0) rfl rfl ?_
  refine v_objInit C dX10_init_1 wwX10_init_oi3 wwX10_init_oim wwX10_init_oic (Nat.le_of_ble_eq_true rfl) (Nat.le_of_ble_eq_true rfl) ?_
  refine v_aload_n C dX10_init_4 (j := 0) rfl rfl ?_
  refine v_bipush C dX10_init_5 (v := 60) (by decide) ?_
  refine v_newa C (N := 60) (a0 := (60, .inl (fun _ => 0))) (atype := .char) dX10_init_7 wwX10_init_acchar 0 ht rfl (by first | exact vp_cell_i _ _ _ | rfl) (by decide) (by decide) (Nat.le_of_ble_eq_true rfl) (by first | exact Nat.le_of_ble_eq_true rfl | (dsimp only; omega)) (by first | exact Nat.le_of_ble_eq_true rfl | (dsimp only; omega)) (FF_new _) (fun a hq => ?_)
  have hta : t ≠ a := fun z => by rw [← z, va_up_same] at hq; cases hq.1
  have h0 : va_up (va_up f t (some txN)) a (some (.inl (cC, 60, .inl (fun _ => 0)))) t = some txN := by rw [va_up_other _ _ _ hta, va_up_same]
  refine v_putF C (T := TX10) (ci := 10) (j := 0) (ty := (.array .char)) dX10_init_9 wiX10_init_X10 tyX10 tyX10_ok nmX10 rfl (by decide) wfX10_init_9 (fun _ h => h) rfl hm rfl rfl (rfl) (rfl) (FF_put h0 (Nat.le_of_ble_eq_true rfl)) ?_
  refine v_x (x' := (f, va_up T t (some []))) (fun H hP => ?_) ?_
  · have h9 := FF_adopt (t := t) (a := a) (va_up_same _ _ _) (by rw [va_up_other _ _ _ (Ne.symm hta), va_up_same]) hP
    have e9 : va_up (va_up (va_up (va_up (va_up f t (some txN)) a (some (.inl (cC, 60, .inl (fun _ => 0))))) t (some (.inr (10, [.ref a, .int 0])))) t none) a none = f := by
        funext q
        have hfa : f a = none := by have := hq.1; rw [va_up_other _ _ _ (Ne.symm hta)] at this; exact this
        by_cases q1 : q = a
        · rw [q1, va_up_same]; exact hfa.symm
        · rw [va_up_other _ _ _ q1]
          by_cases q2 : q = t
          · rw [q2, va_up_same]; exact ht0.symm
          · rw [va_up_other _ _ _ q2, va_up_other _ _ _ q2, va_up_other _ _ _ q1, va_up_other _ _ _ q2]
    rw [e9] at h9
    exact h9
  exact v_return C dX10_init_12 hr (Nat.le_of_ble_eq_true rfl) (Nat.le_of_ble_eq_true rfl) (rfl)
end MK
