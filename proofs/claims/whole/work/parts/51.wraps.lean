/-! ===== the law's own methods: what they catch ===== -/

theorem wwL_rule_IAE : Cond.classLink RL 13 "java/lang/IllegalArgumentException" ∈ wsL_rule := by decide +kernel
theorem wwL_rule_ISE : Cond.classLink RL 15 "java/lang/IllegalStateException" ∈ wsL_rule := by decide +kernel
theorem wwL_act_IOO : Cond.classLink RL 21 "java/lang/IndexOutOfBoundsException" ∈ wsL_act := by decide +kernel
theorem wwL_act_IAE : Cond.classLink RL 13 "java/lang/IllegalArgumentException" ∈ wsL_act := by decide +kernel
theorem wwL_act_ISE : Cond.classLink RL 15 "java/lang/IllegalStateException" ∈ wsL_act := by decide +kernel
theorem wwL_setSeparator_IAE : Cond.classLink RL 13 "java/lang/IllegalArgumentException" ∈ wsL_setSeparator := by decide +kernel
theorem wwL_type_IAE : Cond.classLink RL 13 "java/lang/IllegalArgumentException" ∈ wsL_type := by decide +kernel
theorem wwL_type_ISE : Cond.classLink RL 15 "java/lang/IllegalStateException" ∈ wsL_type := by decide +kernel
theorem wwL_setField_IOO : Cond.classLink RL 21 "java/lang/IndexOutOfBoundsException" ∈ wsL_setField := by decide +kernel
theorem wwL_number_IOO : Cond.classLink RL 21 "java/lang/IndexOutOfBoundsException" ∈ wsL_number := by decide +kernel
theorem wwL_character_IOO : Cond.classLink RL 21 "java/lang/IndexOutOfBoundsException" ∈ wsL_character := by decide +kernel
theorem wwL_row_IOO : Cond.classLink RL 21 "java/lang/IndexOutOfBoundsException" ∈ wsL_row := by decide +kernel
theorem wwL_key_IOO : Cond.classLink RL 21 "java/lang/IndexOutOfBoundsException" ∈ wsL_key := by decide +kernel
theorem wwL_line_IOO : Cond.classLink RL 21 "java/lang/IndexOutOfBoundsException" ∈ wsL_line := by decide +kernel
theorem in01 : vp_in 0 1 := by unfold vp_in; decide
theorem upd0 (g : Nat → Int64) (v : Int64) : vp_updL g (0 : Int32).toNatClampNeg v 0 = v := by rw [show (0 : Int32).toNatClampNeg = 0 from by decide]; simp [vp_updL]
section WR
variable {l : Launch} {D : va_G} {tys : List (ClassId × FieldType)} {z0 : Nat} {A : Nat → Prop} {cC cI cZ cJ : ClassId} {md oa fs : Nat} {ad : Nat → Nat} {xf : fS} {y : mS} {g : Nat → Int64} {post : Int32 → fS → Prop} {px : String → fS → Prop} {W9 : Int32 → lS → Prop}
/-- what a wrapper answers: 0 and the answer in the array, or the exception's number -/
def wQ (post : Int32 → fS → Prop) (px : String → fS → Prop) (code : String → Int32) (y : mS) (g : Nat → Int64) (q : Int32) (x : lS) : Prop := (∃ r x' g', post r x' ∧ q = 0 ∧ g' 0 = r.toInt64 ∧ x = (x', y, g')) ∨ ∃ E x', px E x' ∧ q = code E ∧ x = (x', y, g)
def cd_rule : String → Int32 := fun E => if E = xIAE then 1 else 2
set_option maxRecDepth 100000 in
set_option maxHeartbeats 4000000 in
theorem w_rule {p1 p2 p3 : Int32} (ht6 : tys[6]? = some (cJ, .long)) (hM : cX D tys z0 (AF md oa ad A) (picF D cC (AF md oa ad A)) l yX11_rule wsX11_rule ({ frames := 8, cells := 3, slots := 18, locals := 224 } : Room) [(.ref fs), (.int p1), (.int p2), (.int p3)] xf (qI (picF D cC (AF md oa ad A)) (AF md oa ad A) post) px) (hr2 : gC D (picF D cC (AF md oa ad A)) xf 11 fs) (hE : ∀ E x', px E x' → E = xIAE ∨ E = xISE) (hQ : ∀ q x, wQ post px cd_rule y g q x → W9 q x) : ct D tys z0 A (picL D cC cI cZ cJ md oa ad A) l yL_rule wsL_rule ({ frames := 9, cells := 3, slots := 18, locals := 300 } : Room) [(.ref fs), (.int p1), (.int p2), (.int p3), .ref oa] (xf, y, g) (qI (picL D cC cI cZ cJ md oa ad A) A W9) := by
  refine ct_ofH (hh := [(0, 12, 15, 13), (0, 12, 19, 15)]) RL (by decide +kernel) rfl rfl (Nat.le_of_ble_eq_true rfl) ?_
  intro p e s m below meth c C hr hm
  refine v_lv (lv' := [(0, _), (1, _), (2, _), (3, _), (4, _)]) rfl ?_
  refine v_aload C dL_rule_0 (j := 4) rfl ?_
  refine v_iconst C dL_rule_2 (v := 0) (by decide) ?_
  refine v_aload_n C dL_rule_3 (j := 0) rfl rfl ?_
  refine v_iload_n C dL_rule_4 (j := 1) rfl rfl ?_
  refine v_iload_n C dL_rule_5 (j := 2) rfl rfl ?_
  refine v_iload_n C dL_rule_6 (j := 3) rfl rfl ?_
  refine l_xF C (ci := 11) hM (cwV 3 C.1.2.2.2.2 gL_rule_X11_rule rfl rfl rfl (by decide +kernel) ⟨Nat.le_of_ble_eq_true rfl, Nat.le_of_ble_eq_true rfl⟩) rfl rfl hr2 dL_rule_7 (rest := [_, _]) (Nat.le_of_ble_eq_true rfl) rfl ⟨Nat.le_of_ble_eq_true rfl, Nat.le_of_ble_eq_true rfl⟩ (fun E x' hE' => ?_) (fun r x' hp => ?_)
  · skip
    rcases hE E x' hE' with rfl | rfl
    · skip
      refine v_catch C [] ⟨0, 12, 15, 13⟩ [⟨0, 12, 19, 15⟩] (by rw [hm]; rfl) (fun z hz => by cases hz) (by decide) (by decide) wwL_rule_IAE (v_nw C 17 rfl) (fun q9 => ?_)
      refine v_astore C dL_rule_15 (by decide) (lv' := [(5, _), (0, _), (1, _), (2, _), (3, _), (4, _)]) rfl ?_
      refine v_iconst C dL_rule_17 (v := 1) (by decide) ?_
      exact v_ireturn C dL_rule_18 hr (rfl) (Nat.le_of_ble_eq_true rfl) (Nat.le_of_ble_eq_true rfl) (hQ _ _ (Or.inr ⟨_, x', hE', by decide +kernel, rfl⟩))
    · skip
      refine v_catch C [⟨0, 12, 15, 13⟩] ⟨0, 12, 19, 15⟩ [] (by rw [hm]; rfl) (fun z hz => by rcases List.mem_cons.mp hz with rfl | hz; exact ⟨by decide, _, wwL_rule_IAE, v_ncl C 0 rfl⟩; cases hz) (by decide) (by decide) wwL_rule_ISE (v_nw C 18 rfl) (fun q9 => ?_)
      refine v_astore C dL_rule_19 (by decide) (lv' := [(5, _), (0, _), (1, _), (2, _), (3, _), (4, _)]) rfl ?_
      refine v_iconst C dL_rule_21 (v := 2) (by decide) ?_
      exact v_ireturn C dL_rule_22 hr (rfl) (Nat.le_of_ble_eq_true rfl) (Nat.le_of_ble_eq_true rfl) (hQ _ _ (Or.inr ⟨_, x', hE', by decide +kernel, rfl⟩))
  · skip
    refine v_i2l C dL_rule_10 ?_
    refine v_last C dL_rule_11 6 ht6 in01 (L_setout _) ?_
    refine v_goto C 23 dL_rule_12 (by decide) ?_
    refine v_iconst C dL_rule_23 (v := 0) (by decide) ?_
    exact v_ireturn C dL_rule_24 hr (rfl) (Nat.le_of_ble_eq_true rfl) (Nat.le_of_ble_eq_true rfl) (hQ _ _ (Or.inl ⟨r, x', _, hp, rfl, upd0 _ _, rfl⟩))
def cd_act : String → Int32 := fun E => if E = xIOO then 1 else if E = xIAE then 2 else 3
set_option maxRecDepth 100000 in
set_option maxHeartbeats 4000000 in
theorem w_act {p1 p2 p3 p4 p5 p6 : Int32} (ht6 : tys[6]? = some (cJ, .long)) (hM : cX D tys z0 (AF md oa ad A) (picF D cC (AF md oa ad A)) l yX11_act wsX11_act ({ frames := 8, cells := 8, slots := 88, locals := 224 } : Room) [(.ref fs), (.int p1), (.int p2), (.int p3), (.int p4), (.int p5), (.int p6)] xf (qI (picF D cC (AF md oa ad A)) (AF md oa ad A) post) px) (hr2 : gC D (picF D cC (AF md oa ad A)) xf 11 fs) (hE : ∀ E x', px E x' → E = xIOO ∨ E = xIAE ∨ E = xISE) (hQ : ∀ q x, wQ post px cd_act y g q x → W9 q x) : ct D tys z0 A (picL D cC cI cZ cJ md oa ad A) l yL_act wsL_act ({ frames := 9, cells := 8, slots := 88, locals := 300 } : Room) [(.ref fs), (.int p1), (.int p2), (.int p3), (.int p4), (.int p5), (.int p6), .ref oa] (xf, y, g) (qI (picL D cC cI cZ cJ md oa ad A) A W9) := by
  refine ct_ofH (hh := [(0, 18, 21, 21), (0, 18, 25, 13), (0, 18, 29, 15)]) RL (by decide +kernel) rfl rfl (Nat.le_of_ble_eq_true rfl) ?_
  intro p e s m below meth c C hr hm
  refine v_lv (lv' := [(0, _), (1, _), (2, _), (3, _), (4, _), (5, _), (6, _), (7, _)]) rfl ?_
  refine v_aload C dL_act_0 (j := 7) rfl ?_
  refine v_iconst C dL_act_2 (v := 0) (by decide) ?_
  refine v_aload_n C dL_act_3 (j := 0) rfl rfl ?_
  refine v_iload_n C dL_act_4 (j := 1) rfl rfl ?_
  refine v_iload_n C dL_act_5 (j := 2) rfl rfl ?_
  refine v_iload_n C dL_act_6 (j := 3) rfl rfl ?_
  refine v_iload C dL_act_7 (j := 4) rfl ?_
  refine v_iload C dL_act_9 (j := 5) rfl ?_
  refine v_iload C dL_act_11 (j := 6) rfl ?_
  refine l_xF C (ci := 11) hM (cwV 6 C.1.2.2.2.2 gL_act_X11_act rfl rfl rfl (by decide +kernel) ⟨Nat.le_of_ble_eq_true rfl, Nat.le_of_ble_eq_true rfl⟩) rfl rfl hr2 dL_act_13 (rest := [_, _]) (Nat.le_of_ble_eq_true rfl) rfl ⟨Nat.le_of_ble_eq_true rfl, Nat.le_of_ble_eq_true rfl⟩ (fun E x' hE' => ?_) (fun r x' hp => ?_)
  · skip
    rcases hE E x' hE' with rfl | hE9
    · skip
      refine v_catch C [] ⟨0, 18, 21, 21⟩ [⟨0, 18, 25, 13⟩, ⟨0, 18, 29, 15⟩] (by rw [hm]; rfl) (fun z hz => by cases hz) (by decide) (by decide) wwL_act_IOO (v_nw C 19 rfl) (fun q9 => ?_)
      refine v_astore C dL_act_21 (by decide) (lv' := [(8, _), (0, _), (1, _), (2, _), (3, _), (4, _), (5, _), (6, _), (7, _)]) rfl ?_
      refine v_iconst C dL_act_23 (v := 1) (by decide) ?_
      exact v_ireturn C dL_act_24 hr (rfl) (Nat.le_of_ble_eq_true rfl) (Nat.le_of_ble_eq_true rfl) (hQ _ _ (Or.inr ⟨_, x', hE', by decide +kernel, rfl⟩))
    · skip
      rcases hE9 with rfl | rfl
      · skip
        refine v_catch C [⟨0, 18, 21, 21⟩] ⟨0, 18, 25, 13⟩ [⟨0, 18, 29, 15⟩] (by rw [hm]; rfl) (fun z hz => by rcases List.mem_cons.mp hz with rfl | hz; exact ⟨by decide, _, wwL_act_IOO, v_ncl C 2 rfl⟩; cases hz) (by decide) (by decide) wwL_act_IAE (v_nw C 17 rfl) (fun q9 => ?_)
        refine v_astore C dL_act_25 (by decide) (lv' := [(8, _), (0, _), (1, _), (2, _), (3, _), (4, _), (5, _), (6, _), (7, _)]) rfl ?_
        refine v_iconst C dL_act_27 (v := 2) (by decide) ?_
        exact v_ireturn C dL_act_28 hr (rfl) (Nat.le_of_ble_eq_true rfl) (Nat.le_of_ble_eq_true rfl) (hQ _ _ (Or.inr ⟨_, x', hE', by decide +kernel, rfl⟩))
      · skip
        refine v_catch C [⟨0, 18, 21, 21⟩, ⟨0, 18, 25, 13⟩] ⟨0, 18, 29, 15⟩ [] (by rw [hm]; rfl) (fun z hz => by rcases List.mem_cons.mp hz with rfl | hz; exact ⟨by decide, _, wwL_act_IOO, v_ncl C 1 rfl⟩; rcases List.mem_cons.mp hz with rfl | hz; exact ⟨by decide, _, wwL_act_IAE, v_ncl C 0 rfl⟩; cases hz) (by decide) (by decide) wwL_act_ISE (v_nw C 18 rfl) (fun q9 => ?_)
        refine v_astore C dL_act_29 (by decide) (lv' := [(8, _), (0, _), (1, _), (2, _), (3, _), (4, _), (5, _), (6, _), (7, _)]) rfl ?_
        refine v_iconst C dL_act_31 (v := 3) (by decide) ?_
        exact v_ireturn C dL_act_32 hr (rfl) (Nat.le_of_ble_eq_true rfl) (Nat.le_of_ble_eq_true rfl) (hQ _ _ (Or.inr ⟨_, x', hE', by decide +kernel, rfl⟩))
  · skip
    refine v_i2l C dL_act_16 ?_
    refine v_last C dL_act_17 6 ht6 in01 (L_setout _) ?_
    refine v_goto C 33 dL_act_18 (by decide) ?_
    refine v_iconst C dL_act_33 (v := 0) (by decide) ?_
    exact v_ireturn C dL_act_34 hr (rfl) (Nat.le_of_ble_eq_true rfl) (Nat.le_of_ble_eq_true rfl) (hQ _ _ (Or.inl ⟨r, x', _, hp, rfl, upd0 _ _, rfl⟩))
def cd_setSeparator : String → Int32 := fun E => 1
set_option maxRecDepth 100000 in
set_option maxHeartbeats 4000000 in
theorem w_setSeparator {p1 : Int32} (ht6 : tys[6]? = some (cJ, .long)) (hM : cX D tys z0 (AF md oa ad A) (picF D cC (AF md oa ad A)) l yX11_setSeparator wsX11_setSeparator ({ frames := 7, cells := 1, slots := 6, locals := 112 } : Room) [(.ref fs), (.int p1)] xf (qI (picF D cC (AF md oa ad A)) (AF md oa ad A) post) px) (hr2 : gC D (picF D cC (AF md oa ad A)) xf 11 fs) (hE : ∀ E x', px E x' → E = xIAE) (hQ : ∀ q x, wQ post px cd_setSeparator y g q x → W9 q x) : ct D tys z0 A (picL D cC cI cZ cJ md oa ad A) l yL_setSeparator wsL_setSeparator ({ frames := 8, cells := 1, slots := 6, locals := 300 } : Room) [(.ref fs), (.int p1), .ref oa] (xf, y, g) (qI (picL D cC cI cZ cJ md oa ad A) A W9) := by
  refine ct_ofH (hh := [(0, 9, 12, 13)]) RL (by decide +kernel) rfl rfl (Nat.le_of_ble_eq_true rfl) ?_
  intro p e s m below meth c C hr hm
  refine v_lv (lv' := [(0, _), (1, _), (2, _)]) rfl ?_
  refine v_aload_n C dL_setSeparator_0 (j := 2) rfl rfl ?_
  refine v_iconst C dL_setSeparator_1 (v := 0) (by decide) ?_
  refine v_aload_n C dL_setSeparator_2 (j := 0) rfl rfl ?_
  refine v_iload_n C dL_setSeparator_3 (j := 1) rfl rfl ?_
  refine l_xF C (ci := 11) hM (cwV 1 C.1.2.2.2.2 gL_setSeparator_X11_setSeparator rfl rfl rfl (by decide +kernel) ⟨Nat.le_of_ble_eq_true rfl, Nat.le_of_ble_eq_true rfl⟩) rfl rfl hr2 dL_setSeparator_4 (rest := [_, _]) (Nat.le_of_ble_eq_true rfl) rfl ⟨Nat.le_of_ble_eq_true rfl, Nat.le_of_ble_eq_true rfl⟩ (fun E x' hE' => ?_) (fun r x' hp => ?_)
  · skip
    obtain rfl := hE E x' hE'
    refine v_catch C [] ⟨0, 9, 12, 13⟩ [] (by rw [hm]; rfl) (fun z hz => by cases hz) (by decide) (by decide) wwL_setSeparator_IAE (v_nw C 17 rfl) (fun q9 => ?_)
    refine v_astore_n C dL_setSeparator_12 rfl (by decide) (lv' := [(3, _), (0, _), (1, _), (2, _)]) rfl ?_
    refine v_iconst C dL_setSeparator_13 (v := 1) (by decide) ?_
    exact v_ireturn C dL_setSeparator_14 hr (rfl) (Nat.le_of_ble_eq_true rfl) (Nat.le_of_ble_eq_true rfl) (hQ _ _ (Or.inr ⟨_, x', hE', by decide +kernel, rfl⟩))
  · skip
    refine v_i2l C dL_setSeparator_7 ?_
    refine v_last C dL_setSeparator_8 6 ht6 in01 (L_setout _) ?_
    refine v_goto C 15 dL_setSeparator_9 (by decide) ?_
    refine v_iconst C dL_setSeparator_15 (v := 0) (by decide) ?_
    exact v_ireturn C dL_setSeparator_16 hr (rfl) (Nat.le_of_ble_eq_true rfl) (Nat.le_of_ble_eq_true rfl) (hQ _ _ (Or.inl ⟨r, x', _, hp, rfl, upd0 _ _, rfl⟩))
def cd_type : String → Int32 := fun E => if E = xIAE then 1 else 2
set_option maxRecDepth 100000 in
set_option maxHeartbeats 4000000 in
theorem w_type {p1 : Int32} (ht6 : tys[6]? = some (cJ, .long)) (hM : cX D tys z0 (AF md oa ad A) (picF D cC (AF md oa ad A)) l yX11_type wsX11_type ({ frames := 7, cells := 2, slots := 12, locals := 112 } : Room) [(.ref fs), (.int p1)] xf (qI (picF D cC (AF md oa ad A)) (AF md oa ad A) post) px) (hr2 : gC D (picF D cC (AF md oa ad A)) xf 11 fs) (hE : ∀ E x', px E x' → E = xIAE ∨ E = xISE) (hQ : ∀ q x, wQ post px cd_type y g q x → W9 q x) : ct D tys z0 A (picL D cC cI cZ cJ md oa ad A) l yL_type wsL_type ({ frames := 8, cells := 2, slots := 12, locals := 300 } : Room) [(.ref fs), (.int p1), .ref oa] (xf, y, g) (qI (picL D cC cI cZ cJ md oa ad A) A W9) := by
  refine ct_ofH (hh := [(0, 9, 12, 13), (0, 9, 15, 15)]) RL (by decide +kernel) rfl rfl (Nat.le_of_ble_eq_true rfl) ?_
  intro p e s m below meth c C hr hm
  refine v_lv (lv' := [(0, _), (1, _), (2, _)]) rfl ?_
  refine v_aload_n C dL_type_0 (j := 2) rfl rfl ?_
  refine v_iconst C dL_type_1 (v := 0) (by decide) ?_
  refine v_aload_n C dL_type_2 (j := 0) rfl rfl ?_
  refine v_iload_n C dL_type_3 (j := 1) rfl rfl ?_
  refine l_xF C (ci := 11) hM (cwV 1 C.1.2.2.2.2 gL_type_X11_type rfl rfl rfl (by decide +kernel) ⟨Nat.le_of_ble_eq_true rfl, Nat.le_of_ble_eq_true rfl⟩) rfl rfl hr2 dL_type_4 (rest := [_, _]) (Nat.le_of_ble_eq_true rfl) rfl ⟨Nat.le_of_ble_eq_true rfl, Nat.le_of_ble_eq_true rfl⟩ (fun E x' hE' => ?_) (fun r x' hp => ?_)
  · skip
    rcases hE E x' hE' with rfl | rfl
    · skip
      refine v_catch C [] ⟨0, 9, 12, 13⟩ [⟨0, 9, 15, 15⟩] (by rw [hm]; rfl) (fun z hz => by cases hz) (by decide) (by decide) wwL_type_IAE (v_nw C 17 rfl) (fun q9 => ?_)
      refine v_astore_n C dL_type_12 rfl (by decide) (lv' := [(3, _), (0, _), (1, _), (2, _)]) rfl ?_
      refine v_iconst C dL_type_13 (v := 1) (by decide) ?_
      exact v_ireturn C dL_type_14 hr (rfl) (Nat.le_of_ble_eq_true rfl) (Nat.le_of_ble_eq_true rfl) (hQ _ _ (Or.inr ⟨_, x', hE', by decide +kernel, rfl⟩))
    · skip
      refine v_catch C [⟨0, 9, 12, 13⟩] ⟨0, 9, 15, 15⟩ [] (by rw [hm]; rfl) (fun z hz => by rcases List.mem_cons.mp hz with rfl | hz; exact ⟨by decide, _, wwL_type_IAE, v_ncl C 0 rfl⟩; cases hz) (by decide) (by decide) wwL_type_ISE (v_nw C 18 rfl) (fun q9 => ?_)
      refine v_astore_n C dL_type_15 rfl (by decide) (lv' := [(3, _), (0, _), (1, _), (2, _)]) rfl ?_
      refine v_iconst C dL_type_16 (v := 2) (by decide) ?_
      exact v_ireturn C dL_type_17 hr (rfl) (Nat.le_of_ble_eq_true rfl) (Nat.le_of_ble_eq_true rfl) (hQ _ _ (Or.inr ⟨_, x', hE', by decide +kernel, rfl⟩))
  · skip
    refine v_i2l C dL_type_7 ?_
    refine v_last C dL_type_8 6 ht6 in01 (L_setout _) ?_
    refine v_goto C 18 dL_type_9 (by decide) ?_
    refine v_iconst C dL_type_18 (v := 0) (by decide) ?_
    exact v_ireturn C dL_type_19 hr (rfl) (Nat.le_of_ble_eq_true rfl) (Nat.le_of_ble_eq_true rfl) (hQ _ _ (Or.inl ⟨r, x', _, hp, rfl, upd0 _ _, rfl⟩))
def cd_setField : String → Int32 := fun E => 1
set_option maxRecDepth 100000 in
set_option maxHeartbeats 4000000 in
theorem w_setField {p1 p2 : Int32} (ht6 : tys[6]? = some (cJ, .long)) (hM : cX D tys z0 (AF md oa ad A) (picF D cC (AF md oa ad A)) l yX11_setField wsX11_setField ({ frames := 7, cells := 1, slots := 6, locals := 112 } : Room) [(.ref fs), (.int p1), (.int p2)] xf (qI (picF D cC (AF md oa ad A)) (AF md oa ad A) post) px) (hr2 : gC D (picF D cC (AF md oa ad A)) xf 11 fs) (hE : ∀ E x', px E x' → E = xIOO) (hQ : ∀ q x, wQ post px cd_setField y g q x → W9 q x) : ct D tys z0 A (picL D cC cI cZ cJ md oa ad A) l yL_setField wsL_setField ({ frames := 8, cells := 1, slots := 6, locals := 300 } : Room) [(.ref fs), (.int p1), (.int p2), .ref oa] (xf, y, g) (qI (picL D cC cI cZ cJ md oa ad A) A W9) := by
  refine ct_ofH (hh := [(0, 10, 13, 21)]) RL (by decide +kernel) rfl rfl (Nat.le_of_ble_eq_true rfl) ?_
  intro p e s m below meth c C hr hm
  refine v_lv (lv' := [(0, _), (1, _), (2, _), (3, _)]) rfl ?_
  refine v_aload_n C dL_setField_0 (j := 3) rfl rfl ?_
  refine v_iconst C dL_setField_1 (v := 0) (by decide) ?_
  refine v_aload_n C dL_setField_2 (j := 0) rfl rfl ?_
  refine v_iload_n C dL_setField_3 (j := 1) rfl rfl ?_
  refine v_iload_n C dL_setField_4 (j := 2) rfl rfl ?_
  refine l_xF C (ci := 11) hM (cwV 2 C.1.2.2.2.2 gL_setField_X11_setField rfl rfl rfl (by decide +kernel) ⟨Nat.le_of_ble_eq_true rfl, Nat.le_of_ble_eq_true rfl⟩) rfl rfl hr2 dL_setField_5 (rest := [_, _]) (Nat.le_of_ble_eq_true rfl) rfl ⟨Nat.le_of_ble_eq_true rfl, Nat.le_of_ble_eq_true rfl⟩ (fun E x' hE' => ?_) (fun r x' hp => ?_)
  · skip
    obtain rfl := hE E x' hE'
    refine v_catch C [] ⟨0, 10, 13, 21⟩ [] (by rw [hm]; rfl) (fun z hz => by cases hz) (by decide) (by decide) wwL_setField_IOO (v_nw C 19 rfl) (fun q9 => ?_)
    refine v_astore C dL_setField_13 (by decide) (lv' := [(4, _), (0, _), (1, _), (2, _), (3, _)]) rfl ?_
    refine v_iconst C dL_setField_15 (v := 1) (by decide) ?_
    exact v_ireturn C dL_setField_16 hr (rfl) (Nat.le_of_ble_eq_true rfl) (Nat.le_of_ble_eq_true rfl) (hQ _ _ (Or.inr ⟨_, x', hE', by decide +kernel, rfl⟩))
  · skip
    refine v_i2l C dL_setField_8 ?_
    refine v_last C dL_setField_9 6 ht6 in01 (L_setout _) ?_
    refine v_goto C 17 dL_setField_10 (by decide) ?_
    refine v_iconst C dL_setField_17 (v := 0) (by decide) ?_
    exact v_ireturn C dL_setField_18 hr (rfl) (Nat.le_of_ble_eq_true rfl) (Nat.le_of_ble_eq_true rfl) (hQ _ _ (Or.inl ⟨r, x', _, hp, rfl, upd0 _ _, rfl⟩))
def cd_number : String → Int32 := fun E => 1
set_option maxRecDepth 100000 in
set_option maxHeartbeats 4000000 in
theorem w_number {p1 : Int32} (ht6 : tys[6]? = some (cJ, .long)) (hM : cX D tys z0 (AF md oa ad A) (picF D cC (AF md oa ad A)) l yX11_number wsX11_number ({ frames := 7, cells := 1, slots := 6, locals := 112 } : Room) [(.ref fs), (.int p1)] xf (qI (picF D cC (AF md oa ad A)) (AF md oa ad A) post) px) (hr2 : gC D (picF D cC (AF md oa ad A)) xf 11 fs) (hE : ∀ E x', px E x' → E = xIOO) (hQ : ∀ q x, wQ post px cd_number y g q x → W9 q x) : ct D tys z0 A (picL D cC cI cZ cJ md oa ad A) l yL_number wsL_number ({ frames := 8, cells := 1, slots := 6, locals := 300 } : Room) [(.ref fs), (.int p1), .ref oa] (xf, y, g) (qI (picL D cC cI cZ cJ md oa ad A) A W9) := by
  refine ct_ofH (hh := [(0, 9, 12, 21)]) RL (by decide +kernel) rfl rfl (Nat.le_of_ble_eq_true rfl) ?_
  intro p e s m below meth c C hr hm
  refine v_lv (lv' := [(0, _), (1, _), (2, _)]) rfl ?_
  refine v_aload_n C dL_number_0 (j := 2) rfl rfl ?_
  refine v_iconst C dL_number_1 (v := 0) (by decide) ?_
  refine v_aload_n C dL_number_2 (j := 0) rfl rfl ?_
  refine v_iload_n C dL_number_3 (j := 1) rfl rfl ?_
  refine l_xF C (ci := 11) hM (cwV 1 C.1.2.2.2.2 gL_number_X11_number rfl rfl rfl (by decide +kernel) ⟨Nat.le_of_ble_eq_true rfl, Nat.le_of_ble_eq_true rfl⟩) rfl rfl hr2 dL_number_4 (rest := [_, _]) (Nat.le_of_ble_eq_true rfl) rfl ⟨Nat.le_of_ble_eq_true rfl, Nat.le_of_ble_eq_true rfl⟩ (fun E x' hE' => ?_) (fun r x' hp => ?_)
  · skip
    obtain rfl := hE E x' hE'
    refine v_catch C [] ⟨0, 9, 12, 21⟩ [] (by rw [hm]; rfl) (fun z hz => by cases hz) (by decide) (by decide) wwL_number_IOO (v_nw C 19 rfl) (fun q9 => ?_)
    refine v_astore_n C dL_number_12 rfl (by decide) (lv' := [(3, _), (0, _), (1, _), (2, _)]) rfl ?_
    refine v_iconst C dL_number_13 (v := 1) (by decide) ?_
    exact v_ireturn C dL_number_14 hr (rfl) (Nat.le_of_ble_eq_true rfl) (Nat.le_of_ble_eq_true rfl) (hQ _ _ (Or.inr ⟨_, x', hE', by decide +kernel, rfl⟩))
  · skip
    refine v_i2l C dL_number_7 ?_
    refine v_last C dL_number_8 6 ht6 in01 (L_setout _) ?_
    refine v_goto C 15 dL_number_9 (by decide) ?_
    refine v_iconst C dL_number_15 (v := 0) (by decide) ?_
    exact v_ireturn C dL_number_16 hr (rfl) (Nat.le_of_ble_eq_true rfl) (Nat.le_of_ble_eq_true rfl) (hQ _ _ (Or.inl ⟨r, x', _, hp, rfl, upd0 _ _, rfl⟩))
def cd_character : String → Int32 := fun E => 1
set_option maxRecDepth 100000 in
set_option maxHeartbeats 4000000 in
theorem w_character {p1 p2 : Int32} (ht6 : tys[6]? = some (cJ, .long)) (hM : cX D tys z0 (AF md oa ad A) (picF D cC (AF md oa ad A)) l yX11_character wsX11_character ({ frames := 8, cells := 2, slots := 12, locals := 134 } : Room) [(.ref fs), (.int p1), (.int p2)] xf (qI (picF D cC (AF md oa ad A)) (AF md oa ad A) post) px) (hr2 : gC D (picF D cC (AF md oa ad A)) xf 11 fs) (hE : ∀ E x', px E x' → E = xIOO) (hQ : ∀ q x, wQ post px cd_character y g q x → W9 q x) : ct D tys z0 A (picL D cC cI cZ cJ md oa ad A) l yL_character wsL_character ({ frames := 9, cells := 2, slots := 12, locals := 300 } : Room) [(.ref fs), (.int p1), (.int p2), .ref oa] (xf, y, g) (qI (picL D cC cI cZ cJ md oa ad A) A W9) := by
  refine ct_ofH (hh := [(0, 10, 13, 21)]) RL (by decide +kernel) rfl rfl (Nat.le_of_ble_eq_true rfl) ?_
  intro p e s m below meth c C hr hm
  refine v_lv (lv' := [(0, _), (1, _), (2, _), (3, _)]) rfl ?_
  refine v_aload_n C dL_character_0 (j := 3) rfl rfl ?_
  refine v_iconst C dL_character_1 (v := 0) (by decide) ?_
  refine v_aload_n C dL_character_2 (j := 0) rfl rfl ?_
  refine v_iload_n C dL_character_3 (j := 1) rfl rfl ?_
  refine v_iload_n C dL_character_4 (j := 2) rfl rfl ?_
  refine l_xF C (ci := 11) hM (cwV 2 C.1.2.2.2.2 gL_character_X11_character rfl rfl rfl (by decide +kernel) ⟨Nat.le_of_ble_eq_true rfl, Nat.le_of_ble_eq_true rfl⟩) rfl rfl hr2 dL_character_5 (rest := [_, _]) (Nat.le_of_ble_eq_true rfl) rfl ⟨Nat.le_of_ble_eq_true rfl, Nat.le_of_ble_eq_true rfl⟩ (fun E x' hE' => ?_) (fun r x' hp => ?_)
  · skip
    obtain rfl := hE E x' hE'
    refine v_catch C [] ⟨0, 10, 13, 21⟩ [] (by rw [hm]; rfl) (fun z hz => by cases hz) (by decide) (by decide) wwL_character_IOO (v_nw C 19 rfl) (fun q9 => ?_)
    refine v_astore C dL_character_13 (by decide) (lv' := [(4, _), (0, _), (1, _), (2, _), (3, _)]) rfl ?_
    refine v_iconst C dL_character_15 (v := 1) (by decide) ?_
    exact v_ireturn C dL_character_16 hr (rfl) (Nat.le_of_ble_eq_true rfl) (Nat.le_of_ble_eq_true rfl) (hQ _ _ (Or.inr ⟨_, x', hE', by decide +kernel, rfl⟩))
  · skip
    refine v_i2l C dL_character_8 ?_
    refine v_last C dL_character_9 6 ht6 in01 (L_setout _) ?_
    refine v_goto C 17 dL_character_10 (by decide) ?_
    refine v_iconst C dL_character_17 (v := 0) (by decide) ?_
    exact v_ireturn C dL_character_18 hr (rfl) (Nat.le_of_ble_eq_true rfl) (Nat.le_of_ble_eq_true rfl) (hQ _ _ (Or.inl ⟨r, x', _, hp, rfl, upd0 _ _, rfl⟩))
def cd_row : String → Int32 := fun E => 1
set_option maxRecDepth 100000 in
set_option maxHeartbeats 4000000 in
theorem w_row {p1 : Int32} (ht6 : tys[6]? = some (cJ, .long)) (hM : cX D tys z0 (AF md oa ad A) (picF D cC (AF md oa ad A)) l yX11_row wsX11_row ({ frames := 7, cells := 1, slots := 6, locals := 113 } : Room) [(.ref fs), (.int p1)] xf (qI (picF D cC (AF md oa ad A)) (AF md oa ad A) post) px) (hr2 : gC D (picF D cC (AF md oa ad A)) xf 11 fs) (hE : ∀ E x', px E x' → E = xIOO) (hQ : ∀ q x, wQ post px cd_row y g q x → W9 q x) : ct D tys z0 A (picL D cC cI cZ cJ md oa ad A) l yL_row wsL_row ({ frames := 8, cells := 1, slots := 6, locals := 300 } : Room) [(.ref fs), (.int p1), .ref oa] (xf, y, g) (qI (picL D cC cI cZ cJ md oa ad A) A W9) := by
  refine ct_ofH (hh := [(0, 9, 12, 21)]) RL (by decide +kernel) rfl rfl (Nat.le_of_ble_eq_true rfl) ?_
  intro p e s m below meth c C hr hm
  refine v_lv (lv' := [(0, _), (1, _), (2, _)]) rfl ?_
  refine v_aload_n C dL_row_0 (j := 2) rfl rfl ?_
  refine v_iconst C dL_row_1 (v := 0) (by decide) ?_
  refine v_aload_n C dL_row_2 (j := 0) rfl rfl ?_
  refine v_iload_n C dL_row_3 (j := 1) rfl rfl ?_
  refine l_xF C (ci := 11) hM (cwV 1 C.1.2.2.2.2 gL_row_X11_row rfl rfl rfl (by decide +kernel) ⟨Nat.le_of_ble_eq_true rfl, Nat.le_of_ble_eq_true rfl⟩) rfl rfl hr2 dL_row_4 (rest := [_, _]) (Nat.le_of_ble_eq_true rfl) rfl ⟨Nat.le_of_ble_eq_true rfl, Nat.le_of_ble_eq_true rfl⟩ (fun E x' hE' => ?_) (fun r x' hp => ?_)
  · skip
    obtain rfl := hE E x' hE'
    refine v_catch C [] ⟨0, 9, 12, 21⟩ [] (by rw [hm]; rfl) (fun z hz => by cases hz) (by decide) (by decide) wwL_row_IOO (v_nw C 19 rfl) (fun q9 => ?_)
    refine v_astore_n C dL_row_12 rfl (by decide) (lv' := [(3, _), (0, _), (1, _), (2, _)]) rfl ?_
    refine v_iconst C dL_row_13 (v := 1) (by decide) ?_
    exact v_ireturn C dL_row_14 hr (rfl) (Nat.le_of_ble_eq_true rfl) (Nat.le_of_ble_eq_true rfl) (hQ _ _ (Or.inr ⟨_, x', hE', by decide +kernel, rfl⟩))
  · skip
    refine v_i2l C dL_row_7 ?_
    refine v_last C dL_row_8 6 ht6 in01 (L_setout _) ?_
    refine v_goto C 15 dL_row_9 (by decide) ?_
    refine v_iconst C dL_row_15 (v := 0) (by decide) ?_
    exact v_ireturn C dL_row_16 hr (rfl) (Nat.le_of_ble_eq_true rfl) (Nat.le_of_ble_eq_true rfl) (hQ _ _ (Or.inl ⟨r, x', _, hp, rfl, upd0 _ _, rfl⟩))
def cd_key : String → Int32 := fun E => 1
set_option maxRecDepth 100000 in
set_option maxHeartbeats 4000000 in
theorem w_key {p1 p2 : Int32} (ht6 : tys[6]? = some (cJ, .long)) (hM : cX D tys z0 (AF md oa ad A) (picF D cC (AF md oa ad A)) l yX11_key wsX11_key ({ frames := 8, cells := 2, slots := 12, locals := 134 } : Room) [(.ref fs), (.int p1), (.int p2)] xf (qI (picF D cC (AF md oa ad A)) (AF md oa ad A) post) px) (hr2 : gC D (picF D cC (AF md oa ad A)) xf 11 fs) (hE : ∀ E x', px E x' → E = xIOO) (hQ : ∀ q x, wQ post px cd_key y g q x → W9 q x) : ct D tys z0 A (picL D cC cI cZ cJ md oa ad A) l yL_key wsL_key ({ frames := 9, cells := 2, slots := 12, locals := 300 } : Room) [(.ref fs), (.int p1), (.int p2), .ref oa] (xf, y, g) (qI (picL D cC cI cZ cJ md oa ad A) A W9) := by
  refine ct_ofH (hh := [(0, 10, 13, 21)]) RL (by decide +kernel) rfl rfl (Nat.le_of_ble_eq_true rfl) ?_
  intro p e s m below meth c C hr hm
  refine v_lv (lv' := [(0, _), (1, _), (2, _), (3, _)]) rfl ?_
  refine v_aload_n C dL_key_0 (j := 3) rfl rfl ?_
  refine v_iconst C dL_key_1 (v := 0) (by decide) ?_
  refine v_aload_n C dL_key_2 (j := 0) rfl rfl ?_
  refine v_iload_n C dL_key_3 (j := 1) rfl rfl ?_
  refine v_iload_n C dL_key_4 (j := 2) rfl rfl ?_
  refine l_xF C (ci := 11) hM (cwV 2 C.1.2.2.2.2 gL_key_X11_key rfl rfl rfl (by decide +kernel) ⟨Nat.le_of_ble_eq_true rfl, Nat.le_of_ble_eq_true rfl⟩) rfl rfl hr2 dL_key_5 (rest := [_, _]) (Nat.le_of_ble_eq_true rfl) rfl ⟨Nat.le_of_ble_eq_true rfl, Nat.le_of_ble_eq_true rfl⟩ (fun E x' hE' => ?_) (fun r x' hp => ?_)
  · skip
    obtain rfl := hE E x' hE'
    refine v_catch C [] ⟨0, 10, 13, 21⟩ [] (by rw [hm]; rfl) (fun z hz => by cases hz) (by decide) (by decide) wwL_key_IOO (v_nw C 19 rfl) (fun q9 => ?_)
    refine v_astore C dL_key_13 (by decide) (lv' := [(4, _), (0, _), (1, _), (2, _), (3, _)]) rfl ?_
    refine v_iconst C dL_key_15 (v := 1) (by decide) ?_
    exact v_ireturn C dL_key_16 hr (rfl) (Nat.le_of_ble_eq_true rfl) (Nat.le_of_ble_eq_true rfl) (hQ _ _ (Or.inr ⟨_, x', hE', by decide +kernel, rfl⟩))
  · skip
    refine v_i2l C dL_key_8 ?_
    refine v_last C dL_key_9 6 ht6 in01 (L_setout _) ?_
    refine v_goto C 17 dL_key_10 (by decide) ?_
    refine v_iconst C dL_key_17 (v := 0) (by decide) ?_
    exact v_ireturn C dL_key_18 hr (rfl) (Nat.le_of_ble_eq_true rfl) (Nat.le_of_ble_eq_true rfl) (hQ _ _ (Or.inl ⟨r, x', _, hp, rfl, upd0 _ _, rfl⟩))
def cd_line : String → Int32 := fun E => 1
set_option maxRecDepth 100000 in
set_option maxHeartbeats 4000000 in
theorem w_line {p1 p2 : Int32} (ht6 : tys[6]? = some (cJ, .long)) (hM : cX D tys z0 (AF md oa ad A) (picF D cC (AF md oa ad A)) l yX11_line wsX11_line ({ frames := 8, cells := 2, slots := 12, locals := 134 } : Room) [(.ref fs), (.int p1), (.int p2)] xf (qI (picF D cC (AF md oa ad A)) (AF md oa ad A) post) px) (hr2 : gC D (picF D cC (AF md oa ad A)) xf 11 fs) (hE : ∀ E x', px E x' → E = xIOO) (hQ : ∀ q x, wQ post px cd_line y g q x → W9 q x) : ct D tys z0 A (picL D cC cI cZ cJ md oa ad A) l yL_line wsL_line ({ frames := 9, cells := 2, slots := 12, locals := 300 } : Room) [(.ref fs), (.int p1), (.int p2), .ref oa] (xf, y, g) (qI (picL D cC cI cZ cJ md oa ad A) A W9) := by
  refine ct_ofH (hh := [(0, 10, 13, 21)]) RL (by decide +kernel) rfl rfl (Nat.le_of_ble_eq_true rfl) ?_
  intro p e s m below meth c C hr hm
  refine v_lv (lv' := [(0, _), (1, _), (2, _), (3, _)]) rfl ?_
  refine v_aload_n C dL_line_0 (j := 3) rfl rfl ?_
  refine v_iconst C dL_line_1 (v := 0) (by decide) ?_
  refine v_aload_n C dL_line_2 (j := 0) rfl rfl ?_
  refine v_iload_n C dL_line_3 (j := 1) rfl rfl ?_
  refine v_iload_n C dL_line_4 (j := 2) rfl rfl ?_
  refine l_xF C (ci := 11) hM (cwV 2 C.1.2.2.2.2 gL_line_X11_line rfl rfl rfl (by decide +kernel) ⟨Nat.le_of_ble_eq_true rfl, Nat.le_of_ble_eq_true rfl⟩) rfl rfl hr2 dL_line_5 (rest := [_, _]) (Nat.le_of_ble_eq_true rfl) rfl ⟨Nat.le_of_ble_eq_true rfl, Nat.le_of_ble_eq_true rfl⟩ (fun E x' hE' => ?_) (fun r x' hp => ?_)
  · skip
    obtain rfl := hE E x' hE'
    refine v_catch C [] ⟨0, 10, 13, 21⟩ [] (by rw [hm]; rfl) (fun z hz => by cases hz) (by decide) (by decide) wwL_line_IOO (v_nw C 19 rfl) (fun q9 => ?_)
    refine v_astore C dL_line_13 (by decide) (lv' := [(4, _), (0, _), (1, _), (2, _), (3, _)]) rfl ?_
    refine v_iconst C dL_line_15 (v := 1) (by decide) ?_
    exact v_ireturn C dL_line_16 hr (rfl) (Nat.le_of_ble_eq_true rfl) (Nat.le_of_ble_eq_true rfl) (hQ _ _ (Or.inr ⟨_, x', hE', by decide +kernel, rfl⟩))
  · skip
    refine v_i2l C dL_line_8 ?_
    refine v_last C dL_line_9 6 ht6 in01 (L_setout _) ?_
    refine v_goto C 17 dL_line_10 (by decide) ?_
    refine v_iconst C dL_line_17 (v := 0) (by decide) ?_
    exact v_ireturn C dL_line_18 hr (rfl) (Nat.le_of_ble_eq_true rfl) (Nat.le_of_ble_eq_true rfl) (hQ _ _ (Or.inl ⟨r, x', _, hp, rfl, upd0 _ _, rfl⟩))
end WR
