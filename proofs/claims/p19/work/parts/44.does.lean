/-! ===== the law's own methods: what they catch ===== -/
theorem wwL_does_k50 : Cond.constant RL 50 (-200000) ∈ wsL_does := by decide +kernel
theorem wwL_does_k53 : Cond.constant RL 53 (-100000) ∈ wsL_does := by decide +kernel
theorem wwL_does_k47 : Cond.constant RL 47 (-300000) ∈ wsL_does := by decide +kernel
theorem wwL_acted_k47 : Cond.constant RL 47 (-300000) ∈ wsL_acted := by decide +kernel
theorem wwL_acted_k50 : Cond.constant RL 50 (-200000) ∈ wsL_acted := by decide +kernel
theorem wwL_acted_k53 : Cond.constant RL 53 (-100000) ∈ wsL_acted := by decide +kernel
theorem wwL_does_IAE : Cond.classLink RL 48 "java/lang/IllegalArgumentException" ∈ wsL_does := by decide +kernel
theorem wwL_does_ISE : Cond.classLink RL 51 "java/lang/IllegalStateException" ∈ wsL_does := by decide +kernel
theorem wwL_does_IOO : Cond.classLink RL 45 "java/lang/IndexOutOfBoundsException" ∈ wsL_does := by decide +kernel
theorem wwL_acted_IAE : Cond.classLink RL 48 "java/lang/IllegalArgumentException" ∈ wsL_acted := by decide +kernel
theorem wwL_acted_ISE : Cond.classLink RL 51 "java/lang/IllegalStateException" ∈ wsL_acted := by decide +kernel
theorem wwL_acted_IOO : Cond.classLink RL 45 "java/lang/IndexOutOfBoundsException" ∈ wsL_acted := by decide +kernel
def exC (E : String) : Int32 := if E = xIOO then -300000 else if E = xIAE then -200000 else -100000
section WR
variable {l : Launch} {D : va_G} {tys : List (ClassId × FieldType)} {z0 : Nat} {A : Nat → Prop} {cC cI cJ : ClassId} {fs : Nat} {ad al : Nat → Nat} {xf : fS} {X : Nat → Nat → Int32} {Y : Nat → Nat → Int64} {post : Int32 → fS → Prop} {px : String → fS → Prop} {W9 : Int32 → lS → Prop}
/-- what they answer: what the method answers, or the exception's number -/
def dQ (post : Int32 → fS → Prop) (px : String → fS → Prop) (X : Nat → Nat → Int32) (Y : Nat → Nat → Int64) (q : Int32) (x : lS) : Prop := (∃ r x', post r x' ∧ q = r ∧ x = (x', X, Y)) ∨ ∃ E x', px E x' ∧ q = exC E ∧ x = (x', X, Y)
set_option maxRecDepth 100000 in
set_option maxHeartbeats 4000000 in
theorem d_rule {p1 p2 p3 : Int32} (hM : cX D tys z0 (AF ad al A) (picF D cC (AF ad al A)) l yX11_rule wsX11_rule ({ frames := 8, cells := 3, slots := 18, locals := 224 } : Room) [(.ref fs), (.int p1), (.int p2), (.int p3)] xf (qI (picF D cC (AF ad al A)) (AF ad al A) post) px) (hr2 : gC D (picF D cC (AF ad al A)) xf 11 fs) (hE : ∀ E x', px E x' → E = xIAE ∨ E = xISE) (hQ : ∀ q x, dQ post px X Y q x → W9 q x) : ct D tys z0 A (picL D cC cI cJ ad al A) l yL_does wsL_does ({ frames := 9, cells := 3, slots := 18, locals := 300 } : Room) [(.ref fs), (.int 0), (.int p1), (.int p2), (.int p3)] (xf, X, Y) (qI (picL D cC cI cJ ad al A) A W9) := by
  refine ct_ofH (hh := [(0, 137, 138, 45), (0, 137, 143, 48), (0, 137, 148, 51)]) RL (by decide +kernel) rfl rfl (Nat.le_of_ble_eq_true rfl) ?_
  intro p e s m below meth c C hr hm
  refine v_lv (lv' := [(0, _), (1, _), (2, _), (3, _), (4, _)]) rfl ?_
  refine v_iload_n C dL_does_0 (j := 1) rfl rfl ?_
  refine v_if_ne C 15 dL_does_1 (by decide) (fun g0 => absurd g0 (by decide)) (fun g0 => ?_)
  refine v_aload_n C dL_does_4 (j := 0) rfl rfl ?_
  refine v_iload_n C dL_does_5 (j := 2) rfl rfl ?_
  refine v_iload_n C dL_does_6 (j := 3) rfl rfl ?_
  refine v_iload C dL_does_7 (j := 4) rfl ?_
  refine l_xF C (ci := 11) hM (cwV 3 C.1.2.2.2.2 gL_does_X11_rule rfl rfl rfl (by decide +kernel) ⟨Nat.le_of_ble_eq_true rfl, Nat.le_of_ble_eq_true rfl⟩) rfl rfl hr2 dL_does_9 (rest := []) (Nat.le_of_ble_eq_true rfl) rfl ⟨Nat.le_of_ble_eq_true rfl, Nat.le_of_ble_eq_true rfl⟩ (fun E x' hE' => ?_) (fun r x' hp => ?_)
  · skip
    rcases hE E x' hE' with rfl | rfl
    · skip
      refine v_catch C [⟨0, 137, 138, 45⟩] ⟨0, 137, 143, 48⟩ [⟨0, 137, 148, 51⟩] (by rw [hm]; rfl) (fun z hz => by rcases List.mem_cons.mp hz with rfl | hz; exact ⟨by decide, _, wwL_does_IOO, v_ncl C 2 rfl⟩; cases hz) (by decide) (by decide) wwL_does_IAE (v_nw C 17 rfl) (fun q9 => ?_)
      refine v_astore C dL_does_143 (by decide) (lv' := [(5, _), (0, _), (1, _), (2, _), (3, _), (4, _)]) rfl ?_
      refine v_ldc C dL_does_145 (v := (-200000)) wwL_does_k50 ?_
      exact v_ireturn C dL_does_147 hr (rfl) (Nat.le_of_ble_eq_true rfl) (Nat.le_of_ble_eq_true rfl) (hQ _ _ (Or.inr ⟨_, x', hE', by decide +kernel, rfl⟩))
    · skip
      refine v_catch C [⟨0, 137, 138, 45⟩, ⟨0, 137, 143, 48⟩] ⟨0, 137, 148, 51⟩ [] (by rw [hm]; rfl) (fun z hz => by rcases List.mem_cons.mp hz with rfl | hz; exact ⟨by decide, _, wwL_does_IOO, v_ncl C 1 rfl⟩; rcases List.mem_cons.mp hz with rfl | hz; exact ⟨by decide, _, wwL_does_IAE, v_ncl C 0 rfl⟩; cases hz) (by decide) (by decide) wwL_does_ISE (v_nw C 18 rfl) (fun q9 => ?_)
      refine v_astore C dL_does_148 (by decide) (lv' := [(5, _), (0, _), (1, _), (2, _), (3, _), (4, _)]) rfl ?_
      refine v_ldc C dL_does_150 (v := (-100000)) wwL_does_k53 ?_
      exact v_ireturn C dL_does_152 hr (rfl) (Nat.le_of_ble_eq_true rfl) (Nat.le_of_ble_eq_true rfl) (hQ _ _ (Or.inr ⟨_, x', hE', by decide +kernel, rfl⟩))
  · skip
    refine v_goto C 137 dL_does_12 (by decide) ?_
    exact v_ireturn C dL_does_137 hr (rfl) (Nat.le_of_ble_eq_true rfl) (Nat.le_of_ble_eq_true rfl) (hQ _ _ (Or.inl ⟨r, x', hp, rfl, rfl⟩))
set_option maxRecDepth 100000 in
set_option maxHeartbeats 4000000 in
theorem d_act {p1 p2 p3 : Int32} (hM : cX D tys z0 (AF ad al A) (picF D cC (AF ad al A)) l yX11_act wsX11_act ({ frames := 8, cells := 8, slots := 88, locals := 224 } : Room) [(.ref fs), (.int p1), (.int p2), (.int p3), (.int 0), (.int 0), (.int 0)] xf (qI (picF D cC (AF ad al A)) (AF ad al A) post) px) (hr2 : gC D (picF D cC (AF ad al A)) xf 11 fs) (hE : ∀ E x', px E x' → E = xIOO ∨ E = xIAE ∨ E = xISE) (hQ : ∀ q x, dQ post px X Y q x → W9 q x) : ct D tys z0 A (picL D cC cI cJ ad al A) l yL_does wsL_does ({ frames := 9, cells := 8, slots := 88, locals := 300 } : Room) [(.ref fs), (.int 1), (.int p1), (.int p2), (.int p3)] (xf, X, Y) (qI (picL D cC cI cJ ad al A) A W9) := by
  refine ct_ofH (hh := [(0, 137, 138, 45), (0, 137, 143, 48), (0, 137, 148, 51)]) RL (by decide +kernel) rfl rfl (Nat.le_of_ble_eq_true rfl) ?_
  intro p e s m below meth c C hr hm
  refine v_lv (lv' := [(0, _), (1, _), (2, _), (3, _), (4, _)]) rfl ?_
  refine v_iload_n C dL_does_0 (j := 1) rfl rfl ?_
  refine v_if_ne C 15 dL_does_1 (by decide) (fun g0 => ?_) (fun g0 => absurd g0 (by decide))
  refine v_iload_n C dL_does_15 (j := 1) rfl rfl ?_
  refine v_iconst C dL_does_16 (v := 1) (by decide) ?_
  refine v_icmp_ne C 34 dL_does_17 (by decide) (fun g1 => absurd g1 (by decide)) (fun g1 => ?_)
  refine v_aload_n C dL_does_20 (j := 0) rfl rfl ?_
  refine v_iload_n C dL_does_21 (j := 2) rfl rfl ?_
  refine v_iload_n C dL_does_22 (j := 3) rfl rfl ?_
  refine v_iload C dL_does_23 (j := 4) rfl ?_
  refine v_iconst C dL_does_25 (v := 0) (by decide) ?_
  refine v_iconst C dL_does_26 (v := 0) (by decide) ?_
  refine v_iconst C dL_does_27 (v := 0) (by decide) ?_
  refine l_xF C (ci := 11) hM (cwV 6 C.1.2.2.2.2 gL_does_X11_act rfl rfl rfl (by decide +kernel) ⟨Nat.le_of_ble_eq_true rfl, Nat.le_of_ble_eq_true rfl⟩) rfl rfl hr2 dL_does_28 (rest := []) (Nat.le_of_ble_eq_true rfl) rfl ⟨Nat.le_of_ble_eq_true rfl, Nat.le_of_ble_eq_true rfl⟩ (fun E x' hE' => ?_) (fun r x' hp => ?_)
  · skip
    rcases hE E x' hE' with rfl | hE9
    · skip
      refine v_catch C [] ⟨0, 137, 138, 45⟩ [⟨0, 137, 143, 48⟩, ⟨0, 137, 148, 51⟩] (by rw [hm]; rfl) (fun z hz => by cases hz) (by decide) (by decide) wwL_does_IOO (v_nw C 19 rfl) (fun q9 => ?_)
      refine v_astore C dL_does_138 (by decide) (lv' := [(5, _), (0, _), (1, _), (2, _), (3, _), (4, _)]) rfl ?_
      refine v_ldc C dL_does_140 (v := (-300000)) wwL_does_k47 ?_
      exact v_ireturn C dL_does_142 hr (rfl) (Nat.le_of_ble_eq_true rfl) (Nat.le_of_ble_eq_true rfl) (hQ _ _ (Or.inr ⟨_, x', hE', by decide +kernel, rfl⟩))
    · skip
      rcases hE9 with rfl | rfl
      · skip
        refine v_catch C [⟨0, 137, 138, 45⟩] ⟨0, 137, 143, 48⟩ [⟨0, 137, 148, 51⟩] (by rw [hm]; rfl) (fun z hz => by rcases List.mem_cons.mp hz with rfl | hz; exact ⟨by decide, _, wwL_does_IOO, v_ncl C 2 rfl⟩; cases hz) (by decide) (by decide) wwL_does_IAE (v_nw C 17 rfl) (fun q9 => ?_)
        refine v_astore C dL_does_143 (by decide) (lv' := [(5, _), (0, _), (1, _), (2, _), (3, _), (4, _)]) rfl ?_
        refine v_ldc C dL_does_145 (v := (-200000)) wwL_does_k50 ?_
        exact v_ireturn C dL_does_147 hr (rfl) (Nat.le_of_ble_eq_true rfl) (Nat.le_of_ble_eq_true rfl) (hQ _ _ (Or.inr ⟨_, x', hE', by decide +kernel, rfl⟩))
      · skip
        refine v_catch C [⟨0, 137, 138, 45⟩, ⟨0, 137, 143, 48⟩] ⟨0, 137, 148, 51⟩ [] (by rw [hm]; rfl) (fun z hz => by rcases List.mem_cons.mp hz with rfl | hz; exact ⟨by decide, _, wwL_does_IOO, v_ncl C 1 rfl⟩; rcases List.mem_cons.mp hz with rfl | hz; exact ⟨by decide, _, wwL_does_IAE, v_ncl C 0 rfl⟩; cases hz) (by decide) (by decide) wwL_does_ISE (v_nw C 18 rfl) (fun q9 => ?_)
        refine v_astore C dL_does_148 (by decide) (lv' := [(5, _), (0, _), (1, _), (2, _), (3, _), (4, _)]) rfl ?_
        refine v_ldc C dL_does_150 (v := (-100000)) wwL_does_k53 ?_
        exact v_ireturn C dL_does_152 hr (rfl) (Nat.le_of_ble_eq_true rfl) (Nat.le_of_ble_eq_true rfl) (hQ _ _ (Or.inr ⟨_, x', hE', by decide +kernel, rfl⟩))
  · skip
    refine v_goto C 137 dL_does_31 (by decide) ?_
    exact v_ireturn C dL_does_137 hr (rfl) (Nat.le_of_ble_eq_true rfl) (Nat.le_of_ble_eq_true rfl) (hQ _ _ (Or.inl ⟨r, x', hp, rfl, rfl⟩))
set_option maxRecDepth 100000 in
set_option maxHeartbeats 4000000 in
theorem d_setSeparator {p1 p2 p3 : Int32} (hM : cX D tys z0 (AF ad al A) (picF D cC (AF ad al A)) l yX11_setSeparator wsX11_setSeparator ({ frames := 7, cells := 1, slots := 6, locals := 112 } : Room) [(.ref fs), (.int p1)] xf (qI (picF D cC (AF ad al A)) (AF ad al A) post) px) (hr2 : gC D (picF D cC (AF ad al A)) xf 11 fs) (hE : ∀ E x', px E x' → E = xIAE) (hQ : ∀ q x, dQ post px X Y q x → W9 q x) : ct D tys z0 A (picL D cC cI cJ ad al A) l yL_does wsL_does ({ frames := 8, cells := 1, slots := 6, locals := 300 } : Room) [(.ref fs), (.int 2), (.int p1), (.int p2), (.int p3)] (xf, X, Y) (qI (picL D cC cI cJ ad al A) A W9) := by
  refine ct_ofH (hh := [(0, 137, 138, 45), (0, 137, 143, 48), (0, 137, 148, 51)]) RL (by decide +kernel) rfl rfl (Nat.le_of_ble_eq_true rfl) ?_
  intro p e s m below meth c C hr hm
  refine v_lv (lv' := [(0, _), (1, _), (2, _), (3, _), (4, _)]) rfl ?_
  refine v_iload_n C dL_does_0 (j := 1) rfl rfl ?_
  refine v_if_ne C 15 dL_does_1 (by decide) (fun g0 => ?_) (fun g0 => absurd g0 (by decide))
  refine v_iload_n C dL_does_15 (j := 1) rfl rfl ?_
  refine v_iconst C dL_does_16 (v := 1) (by decide) ?_
  refine v_icmp_ne C 34 dL_does_17 (by decide) (fun g1 => ?_) (fun g1 => absurd g1 (by decide))
  refine v_iload_n C dL_does_34 (j := 1) rfl rfl ?_
  refine v_iconst C dL_does_35 (v := 2) (by decide) ?_
  refine v_icmp_ne C 47 dL_does_36 (by decide) (fun g2 => absurd g2 (by decide)) (fun g2 => ?_)
  refine v_aload_n C dL_does_39 (j := 0) rfl rfl ?_
  refine v_iload_n C dL_does_40 (j := 2) rfl rfl ?_
  refine l_xF C (ci := 11) hM (cwV 1 C.1.2.2.2.2 gL_does_X11_setSeparator rfl rfl rfl (by decide +kernel) ⟨Nat.le_of_ble_eq_true rfl, Nat.le_of_ble_eq_true rfl⟩) rfl rfl hr2 dL_does_41 (rest := []) (Nat.le_of_ble_eq_true rfl) rfl ⟨Nat.le_of_ble_eq_true rfl, Nat.le_of_ble_eq_true rfl⟩ (fun E x' hE' => ?_) (fun r x' hp => ?_)
  · skip
    obtain rfl := hE E x' hE'
    refine v_catch C [⟨0, 137, 138, 45⟩] ⟨0, 137, 143, 48⟩ [⟨0, 137, 148, 51⟩] (by rw [hm]; rfl) (fun z hz => by rcases List.mem_cons.mp hz with rfl | hz; exact ⟨by decide, _, wwL_does_IOO, v_ncl C 2 rfl⟩; cases hz) (by decide) (by decide) wwL_does_IAE (v_nw C 17 rfl) (fun q9 => ?_)
    refine v_astore C dL_does_143 (by decide) (lv' := [(5, _), (0, _), (1, _), (2, _), (3, _), (4, _)]) rfl ?_
    refine v_ldc C dL_does_145 (v := (-200000)) wwL_does_k50 ?_
    exact v_ireturn C dL_does_147 hr (rfl) (Nat.le_of_ble_eq_true rfl) (Nat.le_of_ble_eq_true rfl) (hQ _ _ (Or.inr ⟨_, x', hE', by decide +kernel, rfl⟩))
  · skip
    refine v_goto C 137 dL_does_44 (by decide) ?_
    exact v_ireturn C dL_does_137 hr (rfl) (Nat.le_of_ble_eq_true rfl) (Nat.le_of_ble_eq_true rfl) (hQ _ _ (Or.inl ⟨r, x', hp, rfl, rfl⟩))
set_option maxRecDepth 100000 in
set_option maxHeartbeats 4000000 in
theorem d_type {p1 p2 p3 : Int32} (hM : cX D tys z0 (AF ad al A) (picF D cC (AF ad al A)) l yX11_type wsX11_type ({ frames := 7, cells := 2, slots := 12, locals := 112 } : Room) [(.ref fs), (.int p1)] xf (qI (picF D cC (AF ad al A)) (AF ad al A) post) px) (hr2 : gC D (picF D cC (AF ad al A)) xf 11 fs) (hE : ∀ E x', px E x' → E = xIAE ∨ E = xISE) (hQ : ∀ q x, dQ post px X Y q x → W9 q x) : ct D tys z0 A (picL D cC cI cJ ad al A) l yL_does wsL_does ({ frames := 8, cells := 2, slots := 12, locals := 300 } : Room) [(.ref fs), (.int 3), (.int p1), (.int p2), (.int p3)] (xf, X, Y) (qI (picL D cC cI cJ ad al A) A W9) := by
  refine ct_ofH (hh := [(0, 137, 138, 45), (0, 137, 143, 48), (0, 137, 148, 51)]) RL (by decide +kernel) rfl rfl (Nat.le_of_ble_eq_true rfl) ?_
  intro p e s m below meth c C hr hm
  refine v_lv (lv' := [(0, _), (1, _), (2, _), (3, _), (4, _)]) rfl ?_
  refine v_iload_n C dL_does_0 (j := 1) rfl rfl ?_
  refine v_if_ne C 15 dL_does_1 (by decide) (fun g0 => ?_) (fun g0 => absurd g0 (by decide))
  refine v_iload_n C dL_does_15 (j := 1) rfl rfl ?_
  refine v_iconst C dL_does_16 (v := 1) (by decide) ?_
  refine v_icmp_ne C 34 dL_does_17 (by decide) (fun g1 => ?_) (fun g1 => absurd g1 (by decide))
  refine v_iload_n C dL_does_34 (j := 1) rfl rfl ?_
  refine v_iconst C dL_does_35 (v := 2) (by decide) ?_
  refine v_icmp_ne C 47 dL_does_36 (by decide) (fun g2 => ?_) (fun g2 => absurd g2 (by decide))
  refine v_iload_n C dL_does_47 (j := 1) rfl rfl ?_
  refine v_iconst C dL_does_48 (v := 3) (by decide) ?_
  refine v_icmp_ne C 60 dL_does_49 (by decide) (fun g3 => absurd g3 (by decide)) (fun g3 => ?_)
  refine v_aload_n C dL_does_52 (j := 0) rfl rfl ?_
  refine v_iload_n C dL_does_53 (j := 2) rfl rfl ?_
  refine l_xF C (ci := 11) hM (cwV 1 C.1.2.2.2.2 gL_does_X11_type rfl rfl rfl (by decide +kernel) ⟨Nat.le_of_ble_eq_true rfl, Nat.le_of_ble_eq_true rfl⟩) rfl rfl hr2 dL_does_54 (rest := []) (Nat.le_of_ble_eq_true rfl) rfl ⟨Nat.le_of_ble_eq_true rfl, Nat.le_of_ble_eq_true rfl⟩ (fun E x' hE' => ?_) (fun r x' hp => ?_)
  · skip
    rcases hE E x' hE' with rfl | rfl
    · skip
      refine v_catch C [⟨0, 137, 138, 45⟩] ⟨0, 137, 143, 48⟩ [⟨0, 137, 148, 51⟩] (by rw [hm]; rfl) (fun z hz => by rcases List.mem_cons.mp hz with rfl | hz; exact ⟨by decide, _, wwL_does_IOO, v_ncl C 2 rfl⟩; cases hz) (by decide) (by decide) wwL_does_IAE (v_nw C 17 rfl) (fun q9 => ?_)
      refine v_astore C dL_does_143 (by decide) (lv' := [(5, _), (0, _), (1, _), (2, _), (3, _), (4, _)]) rfl ?_
      refine v_ldc C dL_does_145 (v := (-200000)) wwL_does_k50 ?_
      exact v_ireturn C dL_does_147 hr (rfl) (Nat.le_of_ble_eq_true rfl) (Nat.le_of_ble_eq_true rfl) (hQ _ _ (Or.inr ⟨_, x', hE', by decide +kernel, rfl⟩))
    · skip
      refine v_catch C [⟨0, 137, 138, 45⟩, ⟨0, 137, 143, 48⟩] ⟨0, 137, 148, 51⟩ [] (by rw [hm]; rfl) (fun z hz => by rcases List.mem_cons.mp hz with rfl | hz; exact ⟨by decide, _, wwL_does_IOO, v_ncl C 1 rfl⟩; rcases List.mem_cons.mp hz with rfl | hz; exact ⟨by decide, _, wwL_does_IAE, v_ncl C 0 rfl⟩; cases hz) (by decide) (by decide) wwL_does_ISE (v_nw C 18 rfl) (fun q9 => ?_)
      refine v_astore C dL_does_148 (by decide) (lv' := [(5, _), (0, _), (1, _), (2, _), (3, _), (4, _)]) rfl ?_
      refine v_ldc C dL_does_150 (v := (-100000)) wwL_does_k53 ?_
      exact v_ireturn C dL_does_152 hr (rfl) (Nat.le_of_ble_eq_true rfl) (Nat.le_of_ble_eq_true rfl) (hQ _ _ (Or.inr ⟨_, x', hE', by decide +kernel, rfl⟩))
  · skip
    refine v_goto C 137 dL_does_57 (by decide) ?_
    exact v_ireturn C dL_does_137 hr (rfl) (Nat.le_of_ble_eq_true rfl) (Nat.le_of_ble_eq_true rfl) (hQ _ _ (Or.inl ⟨r, x', hp, rfl, rfl⟩))
set_option maxRecDepth 100000 in
set_option maxHeartbeats 4000000 in
theorem d_setField {p1 p2 p3 : Int32} (hM : cX D tys z0 (AF ad al A) (picF D cC (AF ad al A)) l yX11_setField wsX11_setField ({ frames := 7, cells := 1, slots := 6, locals := 112 } : Room) [(.ref fs), (.int p1), (.int p2)] xf (qI (picF D cC (AF ad al A)) (AF ad al A) post) px) (hr2 : gC D (picF D cC (AF ad al A)) xf 11 fs) (hE : ∀ E x', px E x' → E = xIOO) (hQ : ∀ q x, dQ post px X Y q x → W9 q x) : ct D tys z0 A (picL D cC cI cJ ad al A) l yL_does wsL_does ({ frames := 8, cells := 1, slots := 6, locals := 300 } : Room) [(.ref fs), (.int 4), (.int p1), (.int p2), (.int p3)] (xf, X, Y) (qI (picL D cC cI cJ ad al A) A W9) := by
  refine ct_ofH (hh := [(0, 137, 138, 45), (0, 137, 143, 48), (0, 137, 148, 51)]) RL (by decide +kernel) rfl rfl (Nat.le_of_ble_eq_true rfl) ?_
  intro p e s m below meth c C hr hm
  refine v_lv (lv' := [(0, _), (1, _), (2, _), (3, _), (4, _)]) rfl ?_
  refine v_iload_n C dL_does_0 (j := 1) rfl rfl ?_
  refine v_if_ne C 15 dL_does_1 (by decide) (fun g0 => ?_) (fun g0 => absurd g0 (by decide))
  refine v_iload_n C dL_does_15 (j := 1) rfl rfl ?_
  refine v_iconst C dL_does_16 (v := 1) (by decide) ?_
  refine v_icmp_ne C 34 dL_does_17 (by decide) (fun g1 => ?_) (fun g1 => absurd g1 (by decide))
  refine v_iload_n C dL_does_34 (j := 1) rfl rfl ?_
  refine v_iconst C dL_does_35 (v := 2) (by decide) ?_
  refine v_icmp_ne C 47 dL_does_36 (by decide) (fun g2 => ?_) (fun g2 => absurd g2 (by decide))
  refine v_iload_n C dL_does_47 (j := 1) rfl rfl ?_
  refine v_iconst C dL_does_48 (v := 3) (by decide) ?_
  refine v_icmp_ne C 60 dL_does_49 (by decide) (fun g3 => ?_) (fun g3 => absurd g3 (by decide))
  refine v_iload_n C dL_does_60 (j := 1) rfl rfl ?_
  refine v_iconst C dL_does_61 (v := 4) (by decide) ?_
  refine v_icmp_ne C 74 dL_does_62 (by decide) (fun g4 => absurd g4 (by decide)) (fun g4 => ?_)
  refine v_aload_n C dL_does_65 (j := 0) rfl rfl ?_
  refine v_iload_n C dL_does_66 (j := 2) rfl rfl ?_
  refine v_iload_n C dL_does_67 (j := 3) rfl rfl ?_
  refine l_xF C (ci := 11) hM (cwV 2 C.1.2.2.2.2 gL_does_X11_setField rfl rfl rfl (by decide +kernel) ⟨Nat.le_of_ble_eq_true rfl, Nat.le_of_ble_eq_true rfl⟩) rfl rfl hr2 dL_does_68 (rest := []) (Nat.le_of_ble_eq_true rfl) rfl ⟨Nat.le_of_ble_eq_true rfl, Nat.le_of_ble_eq_true rfl⟩ (fun E x' hE' => ?_) (fun r x' hp => ?_)
  · skip
    obtain rfl := hE E x' hE'
    refine v_catch C [] ⟨0, 137, 138, 45⟩ [⟨0, 137, 143, 48⟩, ⟨0, 137, 148, 51⟩] (by rw [hm]; rfl) (fun z hz => by cases hz) (by decide) (by decide) wwL_does_IOO (v_nw C 19 rfl) (fun q9 => ?_)
    refine v_astore C dL_does_138 (by decide) (lv' := [(5, _), (0, _), (1, _), (2, _), (3, _), (4, _)]) rfl ?_
    refine v_ldc C dL_does_140 (v := (-300000)) wwL_does_k47 ?_
    exact v_ireturn C dL_does_142 hr (rfl) (Nat.le_of_ble_eq_true rfl) (Nat.le_of_ble_eq_true rfl) (hQ _ _ (Or.inr ⟨_, x', hE', by decide +kernel, rfl⟩))
  · skip
    refine v_goto C 137 dL_does_71 (by decide) ?_
    exact v_ireturn C dL_does_137 hr (rfl) (Nat.le_of_ble_eq_true rfl) (Nat.le_of_ble_eq_true rfl) (hQ _ _ (Or.inl ⟨r, x', hp, rfl, rfl⟩))
set_option maxRecDepth 100000 in
set_option maxHeartbeats 4000000 in
theorem d_number {p1 p2 p3 : Int32} (hM : cX D tys z0 (AF ad al A) (picF D cC (AF ad al A)) l yX11_number wsX11_number ({ frames := 7, cells := 1, slots := 6, locals := 112 } : Room) [(.ref fs), (.int p1)] xf (qI (picF D cC (AF ad al A)) (AF ad al A) post) px) (hr2 : gC D (picF D cC (AF ad al A)) xf 11 fs) (hE : ∀ E x', px E x' → E = xIOO) (hQ : ∀ q x, dQ post px X Y q x → W9 q x) : ct D tys z0 A (picL D cC cI cJ ad al A) l yL_does wsL_does ({ frames := 8, cells := 1, slots := 6, locals := 300 } : Room) [(.ref fs), (.int 5), (.int p1), (.int p2), (.int p3)] (xf, X, Y) (qI (picL D cC cI cJ ad al A) A W9) := by
  refine ct_ofH (hh := [(0, 137, 138, 45), (0, 137, 143, 48), (0, 137, 148, 51)]) RL (by decide +kernel) rfl rfl (Nat.le_of_ble_eq_true rfl) ?_
  intro p e s m below meth c C hr hm
  refine v_lv (lv' := [(0, _), (1, _), (2, _), (3, _), (4, _)]) rfl ?_
  refine v_iload_n C dL_does_0 (j := 1) rfl rfl ?_
  refine v_if_ne C 15 dL_does_1 (by decide) (fun g0 => ?_) (fun g0 => absurd g0 (by decide))
  refine v_iload_n C dL_does_15 (j := 1) rfl rfl ?_
  refine v_iconst C dL_does_16 (v := 1) (by decide) ?_
  refine v_icmp_ne C 34 dL_does_17 (by decide) (fun g1 => ?_) (fun g1 => absurd g1 (by decide))
  refine v_iload_n C dL_does_34 (j := 1) rfl rfl ?_
  refine v_iconst C dL_does_35 (v := 2) (by decide) ?_
  refine v_icmp_ne C 47 dL_does_36 (by decide) (fun g2 => ?_) (fun g2 => absurd g2 (by decide))
  refine v_iload_n C dL_does_47 (j := 1) rfl rfl ?_
  refine v_iconst C dL_does_48 (v := 3) (by decide) ?_
  refine v_icmp_ne C 60 dL_does_49 (by decide) (fun g3 => ?_) (fun g3 => absurd g3 (by decide))
  refine v_iload_n C dL_does_60 (j := 1) rfl rfl ?_
  refine v_iconst C dL_does_61 (v := 4) (by decide) ?_
  refine v_icmp_ne C 74 dL_does_62 (by decide) (fun g4 => ?_) (fun g4 => absurd g4 (by decide))
  refine v_iload_n C dL_does_74 (j := 1) rfl rfl ?_
  refine v_iconst C dL_does_75 (v := 5) (by decide) ?_
  refine v_icmp_ne C 87 dL_does_76 (by decide) (fun g5 => absurd g5 (by decide)) (fun g5 => ?_)
  refine v_aload_n C dL_does_79 (j := 0) rfl rfl ?_
  refine v_iload_n C dL_does_80 (j := 2) rfl rfl ?_
  refine l_xF C (ci := 11) hM (cwV 1 C.1.2.2.2.2 gL_does_X11_number rfl rfl rfl (by decide +kernel) ⟨Nat.le_of_ble_eq_true rfl, Nat.le_of_ble_eq_true rfl⟩) rfl rfl hr2 dL_does_81 (rest := []) (Nat.le_of_ble_eq_true rfl) rfl ⟨Nat.le_of_ble_eq_true rfl, Nat.le_of_ble_eq_true rfl⟩ (fun E x' hE' => ?_) (fun r x' hp => ?_)
  · skip
    obtain rfl := hE E x' hE'
    refine v_catch C [] ⟨0, 137, 138, 45⟩ [⟨0, 137, 143, 48⟩, ⟨0, 137, 148, 51⟩] (by rw [hm]; rfl) (fun z hz => by cases hz) (by decide) (by decide) wwL_does_IOO (v_nw C 19 rfl) (fun q9 => ?_)
    refine v_astore C dL_does_138 (by decide) (lv' := [(5, _), (0, _), (1, _), (2, _), (3, _), (4, _)]) rfl ?_
    refine v_ldc C dL_does_140 (v := (-300000)) wwL_does_k47 ?_
    exact v_ireturn C dL_does_142 hr (rfl) (Nat.le_of_ble_eq_true rfl) (Nat.le_of_ble_eq_true rfl) (hQ _ _ (Or.inr ⟨_, x', hE', by decide +kernel, rfl⟩))
  · skip
    refine v_goto C 137 dL_does_84 (by decide) ?_
    exact v_ireturn C dL_does_137 hr (rfl) (Nat.le_of_ble_eq_true rfl) (Nat.le_of_ble_eq_true rfl) (hQ _ _ (Or.inl ⟨r, x', hp, rfl, rfl⟩))
set_option maxRecDepth 100000 in
set_option maxHeartbeats 4000000 in
theorem d_character {p1 p2 p3 : Int32} (hM : cX D tys z0 (AF ad al A) (picF D cC (AF ad al A)) l yX11_character wsX11_character ({ frames := 8, cells := 2, slots := 12, locals := 134 } : Room) [(.ref fs), (.int p1), (.int p2)] xf (qI (picF D cC (AF ad al A)) (AF ad al A) post) px) (hr2 : gC D (picF D cC (AF ad al A)) xf 11 fs) (hE : ∀ E x', px E x' → E = xIOO) (hQ : ∀ q x, dQ post px X Y q x → W9 q x) : ct D tys z0 A (picL D cC cI cJ ad al A) l yL_does wsL_does ({ frames := 9, cells := 2, slots := 12, locals := 300 } : Room) [(.ref fs), (.int 6), (.int p1), (.int p2), (.int p3)] (xf, X, Y) (qI (picL D cC cI cJ ad al A) A W9) := by
  refine ct_ofH (hh := [(0, 137, 138, 45), (0, 137, 143, 48), (0, 137, 148, 51)]) RL (by decide +kernel) rfl rfl (Nat.le_of_ble_eq_true rfl) ?_
  intro p e s m below meth c C hr hm
  refine v_lv (lv' := [(0, _), (1, _), (2, _), (3, _), (4, _)]) rfl ?_
  refine v_iload_n C dL_does_0 (j := 1) rfl rfl ?_
  refine v_if_ne C 15 dL_does_1 (by decide) (fun g0 => ?_) (fun g0 => absurd g0 (by decide))
  refine v_iload_n C dL_does_15 (j := 1) rfl rfl ?_
  refine v_iconst C dL_does_16 (v := 1) (by decide) ?_
  refine v_icmp_ne C 34 dL_does_17 (by decide) (fun g1 => ?_) (fun g1 => absurd g1 (by decide))
  refine v_iload_n C dL_does_34 (j := 1) rfl rfl ?_
  refine v_iconst C dL_does_35 (v := 2) (by decide) ?_
  refine v_icmp_ne C 47 dL_does_36 (by decide) (fun g2 => ?_) (fun g2 => absurd g2 (by decide))
  refine v_iload_n C dL_does_47 (j := 1) rfl rfl ?_
  refine v_iconst C dL_does_48 (v := 3) (by decide) ?_
  refine v_icmp_ne C 60 dL_does_49 (by decide) (fun g3 => ?_) (fun g3 => absurd g3 (by decide))
  refine v_iload_n C dL_does_60 (j := 1) rfl rfl ?_
  refine v_iconst C dL_does_61 (v := 4) (by decide) ?_
  refine v_icmp_ne C 74 dL_does_62 (by decide) (fun g4 => ?_) (fun g4 => absurd g4 (by decide))
  refine v_iload_n C dL_does_74 (j := 1) rfl rfl ?_
  refine v_iconst C dL_does_75 (v := 5) (by decide) ?_
  refine v_icmp_ne C 87 dL_does_76 (by decide) (fun g5 => ?_) (fun g5 => absurd g5 (by decide))
  refine v_iload_n C dL_does_87 (j := 1) rfl rfl ?_
  refine v_bipush C dL_does_88 (v := 6) (by decide) ?_
  refine v_icmp_ne C 102 dL_does_90 (by decide) (fun g6 => absurd g6 (by decide)) (fun g6 => ?_)
  refine v_aload_n C dL_does_93 (j := 0) rfl rfl ?_
  refine v_iload_n C dL_does_94 (j := 2) rfl rfl ?_
  refine v_iload_n C dL_does_95 (j := 3) rfl rfl ?_
  refine l_xF C (ci := 11) hM (cwV 2 C.1.2.2.2.2 gL_does_X11_character rfl rfl rfl (by decide +kernel) ⟨Nat.le_of_ble_eq_true rfl, Nat.le_of_ble_eq_true rfl⟩) rfl rfl hr2 dL_does_96 (rest := []) (Nat.le_of_ble_eq_true rfl) rfl ⟨Nat.le_of_ble_eq_true rfl, Nat.le_of_ble_eq_true rfl⟩ (fun E x' hE' => ?_) (fun r x' hp => ?_)
  · skip
    obtain rfl := hE E x' hE'
    refine v_catch C [] ⟨0, 137, 138, 45⟩ [⟨0, 137, 143, 48⟩, ⟨0, 137, 148, 51⟩] (by rw [hm]; rfl) (fun z hz => by cases hz) (by decide) (by decide) wwL_does_IOO (v_nw C 19 rfl) (fun q9 => ?_)
    refine v_astore C dL_does_138 (by decide) (lv' := [(5, _), (0, _), (1, _), (2, _), (3, _), (4, _)]) rfl ?_
    refine v_ldc C dL_does_140 (v := (-300000)) wwL_does_k47 ?_
    exact v_ireturn C dL_does_142 hr (rfl) (Nat.le_of_ble_eq_true rfl) (Nat.le_of_ble_eq_true rfl) (hQ _ _ (Or.inr ⟨_, x', hE', by decide +kernel, rfl⟩))
  · skip
    refine v_goto C 137 dL_does_99 (by decide) ?_
    exact v_ireturn C dL_does_137 hr (rfl) (Nat.le_of_ble_eq_true rfl) (Nat.le_of_ble_eq_true rfl) (hQ _ _ (Or.inl ⟨r, x', hp, rfl, rfl⟩))
set_option maxRecDepth 100000 in
set_option maxHeartbeats 4000000 in
theorem d_row {p1 p2 p3 : Int32} (hM : cX D tys z0 (AF ad al A) (picF D cC (AF ad al A)) l yX11_row wsX11_row ({ frames := 7, cells := 1, slots := 6, locals := 113 } : Room) [(.ref fs), (.int p1)] xf (qI (picF D cC (AF ad al A)) (AF ad al A) post) px) (hr2 : gC D (picF D cC (AF ad al A)) xf 11 fs) (hE : ∀ E x', px E x' → E = xIOO) (hQ : ∀ q x, dQ post px X Y q x → W9 q x) : ct D tys z0 A (picL D cC cI cJ ad al A) l yL_does wsL_does ({ frames := 8, cells := 1, slots := 6, locals := 300 } : Room) [(.ref fs), (.int 7), (.int p1), (.int p2), (.int p3)] (xf, X, Y) (qI (picL D cC cI cJ ad al A) A W9) := by
  refine ct_ofH (hh := [(0, 137, 138, 45), (0, 137, 143, 48), (0, 137, 148, 51)]) RL (by decide +kernel) rfl rfl (Nat.le_of_ble_eq_true rfl) ?_
  intro p e s m below meth c C hr hm
  refine v_lv (lv' := [(0, _), (1, _), (2, _), (3, _), (4, _)]) rfl ?_
  refine v_iload_n C dL_does_0 (j := 1) rfl rfl ?_
  refine v_if_ne C 15 dL_does_1 (by decide) (fun g0 => ?_) (fun g0 => absurd g0 (by decide))
  refine v_iload_n C dL_does_15 (j := 1) rfl rfl ?_
  refine v_iconst C dL_does_16 (v := 1) (by decide) ?_
  refine v_icmp_ne C 34 dL_does_17 (by decide) (fun g1 => ?_) (fun g1 => absurd g1 (by decide))
  refine v_iload_n C dL_does_34 (j := 1) rfl rfl ?_
  refine v_iconst C dL_does_35 (v := 2) (by decide) ?_
  refine v_icmp_ne C 47 dL_does_36 (by decide) (fun g2 => ?_) (fun g2 => absurd g2 (by decide))
  refine v_iload_n C dL_does_47 (j := 1) rfl rfl ?_
  refine v_iconst C dL_does_48 (v := 3) (by decide) ?_
  refine v_icmp_ne C 60 dL_does_49 (by decide) (fun g3 => ?_) (fun g3 => absurd g3 (by decide))
  refine v_iload_n C dL_does_60 (j := 1) rfl rfl ?_
  refine v_iconst C dL_does_61 (v := 4) (by decide) ?_
  refine v_icmp_ne C 74 dL_does_62 (by decide) (fun g4 => ?_) (fun g4 => absurd g4 (by decide))
  refine v_iload_n C dL_does_74 (j := 1) rfl rfl ?_
  refine v_iconst C dL_does_75 (v := 5) (by decide) ?_
  refine v_icmp_ne C 87 dL_does_76 (by decide) (fun g5 => ?_) (fun g5 => absurd g5 (by decide))
  refine v_iload_n C dL_does_87 (j := 1) rfl rfl ?_
  refine v_bipush C dL_does_88 (v := 6) (by decide) ?_
  refine v_icmp_ne C 102 dL_does_90 (by decide) (fun g6 => ?_) (fun g6 => absurd g6 (by decide))
  refine v_iload_n C dL_does_102 (j := 1) rfl rfl ?_
  refine v_bipush C dL_does_103 (v := 7) (by decide) ?_
  refine v_icmp_ne C 116 dL_does_105 (by decide) (fun g7 => absurd g7 (by decide)) (fun g7 => ?_)
  refine v_aload_n C dL_does_108 (j := 0) rfl rfl ?_
  refine v_iload_n C dL_does_109 (j := 2) rfl rfl ?_
  refine l_xF C (ci := 11) hM (cwV 1 C.1.2.2.2.2 gL_does_X11_row rfl rfl rfl (by decide +kernel) ⟨Nat.le_of_ble_eq_true rfl, Nat.le_of_ble_eq_true rfl⟩) rfl rfl hr2 dL_does_110 (rest := []) (Nat.le_of_ble_eq_true rfl) rfl ⟨Nat.le_of_ble_eq_true rfl, Nat.le_of_ble_eq_true rfl⟩ (fun E x' hE' => ?_) (fun r x' hp => ?_)
  · skip
    obtain rfl := hE E x' hE'
    refine v_catch C [] ⟨0, 137, 138, 45⟩ [⟨0, 137, 143, 48⟩, ⟨0, 137, 148, 51⟩] (by rw [hm]; rfl) (fun z hz => by cases hz) (by decide) (by decide) wwL_does_IOO (v_nw C 19 rfl) (fun q9 => ?_)
    refine v_astore C dL_does_138 (by decide) (lv' := [(5, _), (0, _), (1, _), (2, _), (3, _), (4, _)]) rfl ?_
    refine v_ldc C dL_does_140 (v := (-300000)) wwL_does_k47 ?_
    exact v_ireturn C dL_does_142 hr (rfl) (Nat.le_of_ble_eq_true rfl) (Nat.le_of_ble_eq_true rfl) (hQ _ _ (Or.inr ⟨_, x', hE', by decide +kernel, rfl⟩))
  · skip
    refine v_goto C 137 dL_does_113 (by decide) ?_
    exact v_ireturn C dL_does_137 hr (rfl) (Nat.le_of_ble_eq_true rfl) (Nat.le_of_ble_eq_true rfl) (hQ _ _ (Or.inl ⟨r, x', hp, rfl, rfl⟩))
set_option maxRecDepth 100000 in
set_option maxHeartbeats 4000000 in
theorem d_key {p1 p2 p3 : Int32} (hM : cX D tys z0 (AF ad al A) (picF D cC (AF ad al A)) l yX11_key wsX11_key ({ frames := 8, cells := 2, slots := 12, locals := 134 } : Room) [(.ref fs), (.int p1), (.int p2)] xf (qI (picF D cC (AF ad al A)) (AF ad al A) post) px) (hr2 : gC D (picF D cC (AF ad al A)) xf 11 fs) (hE : ∀ E x', px E x' → E = xIOO) (hQ : ∀ q x, dQ post px X Y q x → W9 q x) : ct D tys z0 A (picL D cC cI cJ ad al A) l yL_does wsL_does ({ frames := 9, cells := 2, slots := 12, locals := 300 } : Room) [(.ref fs), (.int 8), (.int p1), (.int p2), (.int p3)] (xf, X, Y) (qI (picL D cC cI cJ ad al A) A W9) := by
  refine ct_ofH (hh := [(0, 137, 138, 45), (0, 137, 143, 48), (0, 137, 148, 51)]) RL (by decide +kernel) rfl rfl (Nat.le_of_ble_eq_true rfl) ?_
  intro p e s m below meth c C hr hm
  refine v_lv (lv' := [(0, _), (1, _), (2, _), (3, _), (4, _)]) rfl ?_
  refine v_iload_n C dL_does_0 (j := 1) rfl rfl ?_
  refine v_if_ne C 15 dL_does_1 (by decide) (fun g0 => ?_) (fun g0 => absurd g0 (by decide))
  refine v_iload_n C dL_does_15 (j := 1) rfl rfl ?_
  refine v_iconst C dL_does_16 (v := 1) (by decide) ?_
  refine v_icmp_ne C 34 dL_does_17 (by decide) (fun g1 => ?_) (fun g1 => absurd g1 (by decide))
  refine v_iload_n C dL_does_34 (j := 1) rfl rfl ?_
  refine v_iconst C dL_does_35 (v := 2) (by decide) ?_
  refine v_icmp_ne C 47 dL_does_36 (by decide) (fun g2 => ?_) (fun g2 => absurd g2 (by decide))
  refine v_iload_n C dL_does_47 (j := 1) rfl rfl ?_
  refine v_iconst C dL_does_48 (v := 3) (by decide) ?_
  refine v_icmp_ne C 60 dL_does_49 (by decide) (fun g3 => ?_) (fun g3 => absurd g3 (by decide))
  refine v_iload_n C dL_does_60 (j := 1) rfl rfl ?_
  refine v_iconst C dL_does_61 (v := 4) (by decide) ?_
  refine v_icmp_ne C 74 dL_does_62 (by decide) (fun g4 => ?_) (fun g4 => absurd g4 (by decide))
  refine v_iload_n C dL_does_74 (j := 1) rfl rfl ?_
  refine v_iconst C dL_does_75 (v := 5) (by decide) ?_
  refine v_icmp_ne C 87 dL_does_76 (by decide) (fun g5 => ?_) (fun g5 => absurd g5 (by decide))
  refine v_iload_n C dL_does_87 (j := 1) rfl rfl ?_
  refine v_bipush C dL_does_88 (v := 6) (by decide) ?_
  refine v_icmp_ne C 102 dL_does_90 (by decide) (fun g6 => ?_) (fun g6 => absurd g6 (by decide))
  refine v_iload_n C dL_does_102 (j := 1) rfl rfl ?_
  refine v_bipush C dL_does_103 (v := 7) (by decide) ?_
  refine v_icmp_ne C 116 dL_does_105 (by decide) (fun g7 => ?_) (fun g7 => absurd g7 (by decide))
  refine v_iload_n C dL_does_116 (j := 1) rfl rfl ?_
  refine v_bipush C dL_does_117 (v := 8) (by decide) ?_
  refine v_icmp_ne C 131 dL_does_119 (by decide) (fun g8 => absurd g8 (by decide)) (fun g8 => ?_)
  refine v_aload_n C dL_does_122 (j := 0) rfl rfl ?_
  refine v_iload_n C dL_does_123 (j := 2) rfl rfl ?_
  refine v_iload_n C dL_does_124 (j := 3) rfl rfl ?_
  refine l_xF C (ci := 11) hM (cwV 2 C.1.2.2.2.2 gL_does_X11_key rfl rfl rfl (by decide +kernel) ⟨Nat.le_of_ble_eq_true rfl, Nat.le_of_ble_eq_true rfl⟩) rfl rfl hr2 dL_does_125 (rest := []) (Nat.le_of_ble_eq_true rfl) rfl ⟨Nat.le_of_ble_eq_true rfl, Nat.le_of_ble_eq_true rfl⟩ (fun E x' hE' => ?_) (fun r x' hp => ?_)
  · skip
    obtain rfl := hE E x' hE'
    refine v_catch C [] ⟨0, 137, 138, 45⟩ [⟨0, 137, 143, 48⟩, ⟨0, 137, 148, 51⟩] (by rw [hm]; rfl) (fun z hz => by cases hz) (by decide) (by decide) wwL_does_IOO (v_nw C 19 rfl) (fun q9 => ?_)
    refine v_astore C dL_does_138 (by decide) (lv' := [(5, _), (0, _), (1, _), (2, _), (3, _), (4, _)]) rfl ?_
    refine v_ldc C dL_does_140 (v := (-300000)) wwL_does_k47 ?_
    exact v_ireturn C dL_does_142 hr (rfl) (Nat.le_of_ble_eq_true rfl) (Nat.le_of_ble_eq_true rfl) (hQ _ _ (Or.inr ⟨_, x', hE', by decide +kernel, rfl⟩))
  · skip
    refine v_goto C 137 dL_does_128 (by decide) ?_
    exact v_ireturn C dL_does_137 hr (rfl) (Nat.le_of_ble_eq_true rfl) (Nat.le_of_ble_eq_true rfl) (hQ _ _ (Or.inl ⟨r, x', hp, rfl, rfl⟩))
set_option maxRecDepth 100000 in
set_option maxHeartbeats 4000000 in
theorem d_line {p1 p2 p3 : Int32} (hM : cX D tys z0 (AF ad al A) (picF D cC (AF ad al A)) l yX11_line wsX11_line ({ frames := 8, cells := 2, slots := 12, locals := 134 } : Room) [(.ref fs), (.int p1), (.int p2)] xf (qI (picF D cC (AF ad al A)) (AF ad al A) post) px) (hr2 : gC D (picF D cC (AF ad al A)) xf 11 fs) (hE : ∀ E x', px E x' → E = xIOO) (hQ : ∀ q x, dQ post px X Y q x → W9 q x) : ct D tys z0 A (picL D cC cI cJ ad al A) l yL_does wsL_does ({ frames := 9, cells := 2, slots := 12, locals := 300 } : Room) [(.ref fs), (.int 9), (.int p1), (.int p2), (.int p3)] (xf, X, Y) (qI (picL D cC cI cJ ad al A) A W9) := by
  refine ct_ofH (hh := [(0, 137, 138, 45), (0, 137, 143, 48), (0, 137, 148, 51)]) RL (by decide +kernel) rfl rfl (Nat.le_of_ble_eq_true rfl) ?_
  intro p e s m below meth c C hr hm
  refine v_lv (lv' := [(0, _), (1, _), (2, _), (3, _), (4, _)]) rfl ?_
  refine v_iload_n C dL_does_0 (j := 1) rfl rfl ?_
  refine v_if_ne C 15 dL_does_1 (by decide) (fun g0 => ?_) (fun g0 => absurd g0 (by decide))
  refine v_iload_n C dL_does_15 (j := 1) rfl rfl ?_
  refine v_iconst C dL_does_16 (v := 1) (by decide) ?_
  refine v_icmp_ne C 34 dL_does_17 (by decide) (fun g1 => ?_) (fun g1 => absurd g1 (by decide))
  refine v_iload_n C dL_does_34 (j := 1) rfl rfl ?_
  refine v_iconst C dL_does_35 (v := 2) (by decide) ?_
  refine v_icmp_ne C 47 dL_does_36 (by decide) (fun g2 => ?_) (fun g2 => absurd g2 (by decide))
  refine v_iload_n C dL_does_47 (j := 1) rfl rfl ?_
  refine v_iconst C dL_does_48 (v := 3) (by decide) ?_
  refine v_icmp_ne C 60 dL_does_49 (by decide) (fun g3 => ?_) (fun g3 => absurd g3 (by decide))
  refine v_iload_n C dL_does_60 (j := 1) rfl rfl ?_
  refine v_iconst C dL_does_61 (v := 4) (by decide) ?_
  refine v_icmp_ne C 74 dL_does_62 (by decide) (fun g4 => ?_) (fun g4 => absurd g4 (by decide))
  refine v_iload_n C dL_does_74 (j := 1) rfl rfl ?_
  refine v_iconst C dL_does_75 (v := 5) (by decide) ?_
  refine v_icmp_ne C 87 dL_does_76 (by decide) (fun g5 => ?_) (fun g5 => absurd g5 (by decide))
  refine v_iload_n C dL_does_87 (j := 1) rfl rfl ?_
  refine v_bipush C dL_does_88 (v := 6) (by decide) ?_
  refine v_icmp_ne C 102 dL_does_90 (by decide) (fun g6 => ?_) (fun g6 => absurd g6 (by decide))
  refine v_iload_n C dL_does_102 (j := 1) rfl rfl ?_
  refine v_bipush C dL_does_103 (v := 7) (by decide) ?_
  refine v_icmp_ne C 116 dL_does_105 (by decide) (fun g7 => ?_) (fun g7 => absurd g7 (by decide))
  refine v_iload_n C dL_does_116 (j := 1) rfl rfl ?_
  refine v_bipush C dL_does_117 (v := 8) (by decide) ?_
  refine v_icmp_ne C 131 dL_does_119 (by decide) (fun g8 => ?_) (fun g8 => absurd g8 (by decide))
  refine v_aload_n C dL_does_131 (j := 0) rfl rfl ?_
  refine v_iload_n C dL_does_132 (j := 2) rfl rfl ?_
  refine v_iload_n C dL_does_133 (j := 3) rfl rfl ?_
  refine l_xF C (ci := 11) hM (cwV 2 C.1.2.2.2.2 gL_does_X11_line rfl rfl rfl (by decide +kernel) ⟨Nat.le_of_ble_eq_true rfl, Nat.le_of_ble_eq_true rfl⟩) rfl rfl hr2 dL_does_134 (rest := []) (Nat.le_of_ble_eq_true rfl) rfl ⟨Nat.le_of_ble_eq_true rfl, Nat.le_of_ble_eq_true rfl⟩ (fun E x' hE' => ?_) (fun r x' hp => ?_)
  · skip
    obtain rfl := hE E x' hE'
    refine v_catch C [] ⟨0, 137, 138, 45⟩ [⟨0, 137, 143, 48⟩, ⟨0, 137, 148, 51⟩] (by rw [hm]; rfl) (fun z hz => by cases hz) (by decide) (by decide) wwL_does_IOO (v_nw C 19 rfl) (fun q9 => ?_)
    refine v_astore C dL_does_138 (by decide) (lv' := [(5, _), (0, _), (1, _), (2, _), (3, _), (4, _)]) rfl ?_
    refine v_ldc C dL_does_140 (v := (-300000)) wwL_does_k47 ?_
    exact v_ireturn C dL_does_142 hr (rfl) (Nat.le_of_ble_eq_true rfl) (Nat.le_of_ble_eq_true rfl) (hQ _ _ (Or.inr ⟨_, x', hE', by decide +kernel, rfl⟩))
  · skip
    exact v_ireturn C dL_does_137 hr (rfl) (Nat.le_of_ble_eq_true rfl) (Nat.le_of_ble_eq_true rfl) (hQ _ _ (Or.inl ⟨r, x', hp, rfl, rfl⟩))
set_option maxRecDepth 100000 in
set_option maxHeartbeats 4000000 in
theorem d_acted {p1 p2 p3 p4 p5 p6 : Int32} (hM : cX D tys z0 (AF ad al A) (picF D cC (AF ad al A)) l yX11_act wsX11_act ({ frames := 8, cells := 8, slots := 88, locals := 224 } : Room) [(.ref fs), (.int p1), (.int p2), (.int p3), (.int p4), (.int p5), (.int p6)] xf (qI (picF D cC (AF ad al A)) (AF ad al A) post) px) (hr2 : gC D (picF D cC (AF ad al A)) xf 11 fs) (hE : ∀ E x', px E x' → E = xIOO ∨ E = xIAE ∨ E = xISE) (hQ : ∀ q x, dQ post px X Y q x → W9 q x) : ct D tys z0 A (picL D cC cI cJ ad al A) l yL_acted wsL_acted ({ frames := 9, cells := 8, slots := 88, locals := 300 } : Room) [(.ref fs), (.int p1), (.int p2), (.int p3), (.int p4), (.int p5), (.int p6)] (xf, X, Y) (qI (picL D cC cI cJ ad al A) A W9) := by
  refine ct_ofH (hh := [(0, 13, 14, 45), (0, 13, 19, 48), (0, 13, 24, 51)]) RL (by decide +kernel) rfl rfl (Nat.le_of_ble_eq_true rfl) ?_
  intro p e s m below meth c C hr hm
  refine v_lv (lv' := [(0, _), (1, _), (2, _), (3, _), (4, _), (5, _), (6, _)]) rfl ?_
  refine v_aload_n C dL_acted_0 (j := 0) rfl rfl ?_
  refine v_iload_n C dL_acted_1 (j := 1) rfl rfl ?_
  refine v_iload_n C dL_acted_2 (j := 2) rfl rfl ?_
  refine v_iload_n C dL_acted_3 (j := 3) rfl rfl ?_
  refine v_iload C dL_acted_4 (j := 4) rfl ?_
  refine v_iload C dL_acted_6 (j := 5) rfl ?_
  refine v_iload C dL_acted_8 (j := 6) rfl ?_
  refine l_xF C (ci := 11) hM (cwV 6 C.1.2.2.2.2 gL_acted_X11_act rfl rfl rfl (by decide +kernel) ⟨Nat.le_of_ble_eq_true rfl, Nat.le_of_ble_eq_true rfl⟩) rfl rfl hr2 dL_acted_10 (rest := []) (Nat.le_of_ble_eq_true rfl) rfl ⟨Nat.le_of_ble_eq_true rfl, Nat.le_of_ble_eq_true rfl⟩ (fun E x' hE' => ?_) (fun r x' hp => ?_)
  · skip
    rcases hE E x' hE' with rfl | hE9
    · skip
      refine v_catch C [] ⟨0, 13, 14, 45⟩ [⟨0, 13, 19, 48⟩, ⟨0, 13, 24, 51⟩] (by rw [hm]; rfl) (fun z hz => by cases hz) (by decide) (by decide) wwL_acted_IOO (v_nw C 19 rfl) (fun q9 => ?_)
      refine v_astore C dL_acted_14 (by decide) (lv' := [(7, _), (0, _), (1, _), (2, _), (3, _), (4, _), (5, _), (6, _)]) rfl ?_
      refine v_ldc C dL_acted_16 (v := (-300000)) wwL_acted_k47 ?_
      exact v_ireturn C dL_acted_18 hr (rfl) (Nat.le_of_ble_eq_true rfl) (Nat.le_of_ble_eq_true rfl) (hQ _ _ (Or.inr ⟨_, x', hE', by decide +kernel, rfl⟩))
    · skip
      rcases hE9 with rfl | rfl
      · skip
        refine v_catch C [⟨0, 13, 14, 45⟩] ⟨0, 13, 19, 48⟩ [⟨0, 13, 24, 51⟩] (by rw [hm]; rfl) (fun z hz => by rcases List.mem_cons.mp hz with rfl | hz; exact ⟨by decide, _, wwL_acted_IOO, v_ncl C 2 rfl⟩; cases hz) (by decide) (by decide) wwL_acted_IAE (v_nw C 17 rfl) (fun q9 => ?_)
        refine v_astore C dL_acted_19 (by decide) (lv' := [(7, _), (0, _), (1, _), (2, _), (3, _), (4, _), (5, _), (6, _)]) rfl ?_
        refine v_ldc C dL_acted_21 (v := (-200000)) wwL_acted_k50 ?_
        exact v_ireturn C dL_acted_23 hr (rfl) (Nat.le_of_ble_eq_true rfl) (Nat.le_of_ble_eq_true rfl) (hQ _ _ (Or.inr ⟨_, x', hE', by decide +kernel, rfl⟩))
      · skip
        refine v_catch C [⟨0, 13, 14, 45⟩, ⟨0, 13, 19, 48⟩] ⟨0, 13, 24, 51⟩ [] (by rw [hm]; rfl) (fun z hz => by rcases List.mem_cons.mp hz with rfl | hz; exact ⟨by decide, _, wwL_acted_IOO, v_ncl C 1 rfl⟩; rcases List.mem_cons.mp hz with rfl | hz; exact ⟨by decide, _, wwL_acted_IAE, v_ncl C 0 rfl⟩; cases hz) (by decide) (by decide) wwL_acted_ISE (v_nw C 18 rfl) (fun q9 => ?_)
        refine v_astore C dL_acted_24 (by decide) (lv' := [(7, _), (0, _), (1, _), (2, _), (3, _), (4, _), (5, _), (6, _)]) rfl ?_
        refine v_ldc C dL_acted_26 (v := (-100000)) wwL_acted_k53 ?_
        exact v_ireturn C dL_acted_28 hr (rfl) (Nat.le_of_ble_eq_true rfl) (Nat.le_of_ble_eq_true rfl) (hQ _ _ (Or.inr ⟨_, x', hE', by decide +kernel, rfl⟩))
  · skip
    exact v_ireturn C dL_acted_13 hr (rfl) (Nat.le_of_ble_eq_true rfl) (Nat.le_of_ble_eq_true rfl) (hQ _ _ (Or.inl ⟨r, x', hp, rfl, rfl⟩))
end WR
