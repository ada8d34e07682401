/-! ===== ArrayList, up to ten elements ===== -/
theorem wwJxa1e45_init_da8c8_oi1 : Cond.methodLink RJxa1e45 1 Lib.objectInit ∈ wsJxa1e45_init_da8c8 := by decide +kernel
theorem wwJxa1e45_init_da8c8_oim : Cond.instanceMethod Lib.objectInit ∈ wsJxa1e45_init_da8c8 := by decide +kernel
theorem wwJxa1e45_init_da8c8_oic : Cond.code Lib.objectInit ⟨#[0xb1]⟩ 1 none ∈ wsJxa1e45_init_da8c8 := by decide +kernel
theorem wwJxc12de_init_da8c8_in_Jxa1e45_init_da8c8 : Cond.initialized yJxa1e45_init_da8c8.cls ∈ wsJxc12de_init_da8c8 := by decide +kernel
theorem wwJxc12de_init_da8c8_ml1 : Cond.methodLink RJxc12de 1 yJxa1e45_init_da8c8 ∈ wsJxc12de_init_da8c8 := by decide +kernel
theorem wwJxc12de_init_da8c8_im_Jxa1e45_init_da8c8 : Cond.instanceMethod yJxa1e45_init_da8c8 ∈ wsJxc12de_init_da8c8 := by decide +kernel
theorem wfJxc12de_init_da8c8_7 : Cond.fieldLink RJxc12de 7 "java/util/AbstractList" (TJx4a65c 0).2.1 (TJx4a65c 0).2.2.1 ∈ wsJxc12de_init_da8c8 := by decide +kernel
theorem wiJxc12de_init_da8c8_Jx4a65c : ∀ w ∈ u_ws RJx4a65c TJx4a65c 3, w ∈ wsJxc12de_init_da8c8 := by decide +kernel
theorem wwJx4a65c_init_da8c8_in_Jxc12de_init_da8c8 : Cond.initialized yJxc12de_init_da8c8.cls ∈ wsJx4a65c_init_da8c8 := by decide +kernel
theorem wwJx4a65c_init_da8c8_ml1 : Cond.methodLink RJx4a65c 1 yJxc12de_init_da8c8 ∈ wsJx4a65c_init_da8c8 := by decide +kernel
theorem wwJx4a65c_init_da8c8_im_Jxc12de_init_da8c8 : Cond.instanceMethod yJxc12de_init_da8c8 ∈ wsJx4a65c_init_da8c8 := by decide +kernel
theorem wwJx4a65c_init_da8c8_z39 : Cond.fieldLink RJx4a65c 39 "java/util/ArrayList" "DEFAULTCAPACITY_EMPTY_ELEMENTDATA" "[Ljava/lang/Object;" ∈ wsJx4a65c_init_da8c8 := by decide +kernel
theorem wfJx4a65c_init_da8c8_9 : Cond.fieldLink RJx4a65c 9 "java/util/ArrayList" (TJx4a65c 1).2.1 (TJx4a65c 1).2.2.1 ∈ wsJx4a65c_init_da8c8 := by decide +kernel
theorem wiJx4a65c_init_da8c8_Jx4a65c : ∀ w ∈ u_ws RJx4a65c TJx4a65c 3, w ∈ wsJx4a65c_init_da8c8 := by decide +kernel
theorem wfJx4a65c_size_8abf5_48 : Cond.fieldLink RJx4a65c 48 "java/util/ArrayList" (TJx4a65c 2).2.1 (TJx4a65c 2).2.2.1 ∈ wsJx4a65c_size_8abf5 := by decide +kernel
theorem wiJx4a65c_size_8abf5_Jx4a65c : ∀ w ∈ u_ws RJx4a65c TJx4a65c 3, w ∈ wsJx4a65c_size_8abf5 := by decide +kernel
theorem wfJx4a65c_elementData_915e3_9 : Cond.fieldLink RJx4a65c 9 "java/util/ArrayList" (TJx4a65c 1).2.1 (TJx4a65c 1).2.2.1 ∈ wsJx4a65c_elementData_915e3 := by decide +kernel
theorem wiJx4a65c_elementData_915e3_Jx4a65c : ∀ w ∈ u_ws RJx4a65c TJx4a65c 3, w ∈ wsJx4a65c_elementData_915e3 := by decide +kernel
theorem wfJx4a65c_get_915e3_48 : Cond.fieldLink RJx4a65c 48 "java/util/ArrayList" (TJx4a65c 2).2.1 (TJx4a65c 2).2.2.1 ∈ wsJx4a65c_get_915e3 := by decide +kernel
theorem wiJx4a65c_get_915e3_Jx4a65c : ∀ w ∈ u_ws RJx4a65c TJx4a65c 3, w ∈ wsJx4a65c_get_915e3 := by decide +kernel
theorem wfJx4a65c_grow_92f84_9 : Cond.fieldLink RJx4a65c 9 "java/util/ArrayList" (TJx4a65c 1).2.1 (TJx4a65c 1).2.2.1 ∈ wsJx4a65c_grow_92f84 := by decide +kernel
theorem wiJx4a65c_grow_92f84_Jx4a65c : ∀ w ∈ u_ws RJx4a65c TJx4a65c 3, w ∈ wsJx4a65c_grow_92f84 := by decide +kernel
theorem wwJx4a65c_grow_92f84_z39 : Cond.fieldLink RJx4a65c 39 "java/util/ArrayList" "DEFAULTCAPACITY_EMPTY_ELEMENTDATA" "[Ljava/lang/Object;" ∈ wsJx4a65c_grow_92f84 := by decide +kernel
theorem wwJx4a65c_grow_92f84_mm79 : Cond.methodLink RJx4a65c 79 Lib.Math.max.name ∈ wsJx4a65c_grow_92f84 := by decide +kernel
theorem wwJx4a65c_grow_92f84_msmax : Cond.static Lib.Math.max.name ∈ wsJx4a65c_grow_92f84 := by decide +kernel
theorem wwJx4a65c_grow_92f84_mi : Cond.initialized "java/lang/Math" ∈ wsJx4a65c_grow_92f84 := by decide +kernel
theorem wwJx4a65c_grow_92f84_mcmax : Cond.code Lib.Math.max.name Lib.Math.max.code 2 (some .int) ∈ wsJx4a65c_grow_92f84 := by decide +kernel
theorem wwJx4a65c_grow_92f84_cl7 : Cond.classLink RJx4a65c 7 "java/lang/Object" ∈ wsJx4a65c_grow_92f84 := by decide +kernel
theorem wfJx4a65c_grow_d5877_48 : Cond.fieldLink RJx4a65c 48 "java/util/ArrayList" (TJx4a65c 2).2.1 (TJx4a65c 2).2.2.1 ∈ wsJx4a65c_grow_d5877 := by decide +kernel
theorem wiJx4a65c_grow_d5877_Jx4a65c : ∀ w ∈ u_ws RJx4a65c TJx4a65c 3, w ∈ wsJx4a65c_grow_d5877 := by decide +kernel
theorem wfJx4a65c_add_72be8_48 : Cond.fieldLink RJx4a65c 48 "java/util/ArrayList" (TJx4a65c 2).2.1 (TJx4a65c 2).2.2.1 ∈ wsJx4a65c_add_72be8 := by decide +kernel
theorem wiJx4a65c_add_72be8_Jx4a65c : ∀ w ∈ u_ws RJx4a65c TJx4a65c 3, w ∈ wsJx4a65c_add_72be8 := by decide +kernel
theorem wwJx4a65c_add_9ea2d_sf : Cond.sameField "java/util/ArrayList" "java/util/AbstractList" "modCount" "I" ∈ wsJx4a65c_add_9ea2d := by decide +kernel
theorem wfJx4a65c_add_9ea2d_63 : Cond.fieldLink RJx4a65c 63 "java/util/ArrayList" (TJx4a65c 0).2.1 (TJx4a65c 0).2.2.1 ∈ wsJx4a65c_add_9ea2d := by decide +kernel
theorem wiJx4a65c_add_9ea2d_Jx4a65c : ∀ w ∈ u_ws RJx4a65c TJx4a65c 3, w ∈ wsJx4a65c_add_9ea2d := by decide +kernel
theorem wfJx4a65c_add_9ea2d_9 : Cond.fieldLink RJx4a65c 9 "java/util/ArrayList" (TJx4a65c 1).2.1 (TJx4a65c 1).2.2.1 ∈ wsJx4a65c_add_9ea2d := by decide +kernel
theorem wfJx4a65c_add_9ea2d_48 : Cond.fieldLink RJx4a65c 48 "java/util/ArrayList" (TJx4a65c 2).2.1 (TJx4a65c 2).2.2.1 ∈ wsJx4a65c_add_9ea2d := by decide +kernel
def alE (mc : Int32) (ea : Option Nat) (n : Nat) : Option va_E := some (.inr (0, [.int mc, va_rf ea, .int (nI n)]))
/-- the list al holds xs, in the array ea (z0 while it's empty) -/
def alI (f : Nat → Option va_E) (z0 : Nat) (cO : ClassId) (al ea : Nat) (xs : List Nat) : Prop := (∃ mc, f al = alE mc (some ea) xs.length) ∧ xs.length ≤ 10 ∧ if xs = [] then ea = z0 else ∃ rf : Nat → Option Nat, f ea = some (.inl (cO, 10, .inr (.inr (.inr (.inr rf))))) ∧ ∀ i, i < xs.length → rf i = some (xs.getD i 0)
section AL
variable {l : Launch} {D : va_G} {tys : List (ClassId × FieldType)} {z0 : Nat} {A : Nat → Prop} {cC cO : ClassId} {f : Nat → Option va_E} {T : Nat → Option (List Int32)} {al ea q : Nat} {xs : List Nat}
set_option maxRecDepth 100000 in
set_option maxHeartbeats 4000000 in
theorem k_acinit : ct D tys z0 A (picF D cC A) l yJxa1e45_init_da8c8 wsJxa1e45_init_da8c8 (rmL 1 24) [.ref al] (f, T) (qV (picF D cC A) A (fun x => x = (f, T))) := by
  refine ct_of "java/util/AbstractCollection" (by decide +kernel) rfl rfl (Nat.le_of_ble_eq_true rfl) ?_
  intro p e s m below meth c C hr hm
  refine v_lv (lv' := [(0, _)]) rfl ?_
  refine v_aload_n C dJxa1e45_init_da8c8_0 (j := 0) rfl rfl ?_
  refine v_objInit C dJxa1e45_init_da8c8_1 wwJxa1e45_init_da8c8_oi1 wwJxa1e45_init_da8c8_oim wwJxa1e45_init_da8c8_oic (Nat.le_of_ble_eq_true rfl) (Nat.le_of_ble_eq_true rfl) ?_
  exact v_return C dJxa1e45_init_da8c8_4 hr (Nat.le_of_ble_eq_true rfl) (Nat.le_of_ble_eq_true rfl) (rfl)
set_option maxRecDepth 100000 in
set_option maxHeartbeats 4000000 in
theorem k_alinit0 {ea : Option Nat} {n : Nat} {mc : Int32} (hal : f al = alE mc ea n) : ct D tys z0 A (picF D cC A) l yJxc12de_init_da8c8 wsJxc12de_init_da8c8 (rmL 2 44) [.ref al] (f, T) (qV (picF D cC A) A (fun x => x = (va_up f al (alE 0 ea n), T))) := by
  refine ct_of "java/util/AbstractList" (by decide +kernel) rfl rfl (Nat.le_of_ble_eq_true rfl) ?_
  intro p e s m below meth c C hr hm
  refine v_lv (lv' := [(0, _)]) rfl ?_
  refine v_aload_n C dJxc12de_init_da8c8_0 (j := 0) rfl rfl ?_
  refine v_cv (v_runI C (k_acinit) (cwI 0 C.1.2.2.2.2 gJxc12de_init_da8c8_Jxa1e45_init_da8c8 rfl rfl rfl (C.1.2.2.2.2 _ wwJxc12de_init_da8c8_in_Jxa1e45_init_da8c8) (C.1.2.2.2.2 _ wwJxc12de_init_da8c8_ml1) (C.1.2.2.2.2 _ wwJxc12de_init_da8c8_im_Jxa1e45_init_da8c8) rfl (by decide +kernel) ⟨Nat.le_of_ble_eq_true rfl, Nat.le_of_ble_eq_true rfl⟩) rfl dJxc12de_init_da8c8_1 (rest := []) (Nat.le_of_ble_eq_true rfl) rfl ⟨(by first | exact Nat.le_of_ble_eq_true rfl | (dsimp only; omega)), (by first | exact Nat.le_of_ble_eq_true rfl | (dsimp only; omega))⟩) (fun x' hx' => ?_)
  subst hx'
  refine v_aload_n C dJxc12de_init_da8c8_4 (j := 0) rfl rfl ?_
  refine v_iconst C dJxc12de_init_da8c8_5 (v := 0) (by decide) ?_
  refine v_put C (T := TJx4a65c) (ci := 0) (j := 0) (ty := .int) dJxc12de_init_da8c8_6 wiJxc12de_init_da8c8_Jx4a65c tyJx4a65c tyJx4a65c_ok nmJx4a65c rfl (by decide) wfJxc12de_init_da8c8_7 (fun _ h => h) rfl rfl (rfl) (rfl) (FF_put hal (Nat.le_of_ble_eq_true rfl)) ?_
  exact v_return C dJxc12de_init_da8c8_9 hr (Nat.le_of_ble_eq_true rfl) (Nat.le_of_ble_eq_true rfl) (rfl)
set_option maxRecDepth 100000 in
set_option maxHeartbeats 4000000 in
theorem k_linit (hal : f al = alE 0 none 0) : ct D tys z0 A (picF D cC A) l yJx4a65c_init_da8c8 wsJx4a65c_init_da8c8 (rmL 3 64) [.ref al] (f, T) (qV (picF D cC A) A (fun x => x = (va_up f al (alE 0 (some z0) 0), T))) := by
  refine ct_of "java/util/ArrayList" (by decide +kernel) rfl rfl (Nat.le_of_ble_eq_true rfl) ?_
  intro p e s m below meth c C hr hm
  refine v_lv (lv' := [(0, _)]) rfl ?_
  refine v_aload_n C dJx4a65c_init_da8c8_0 (j := 0) rfl rfl ?_
  refine v_cv (v_runI C (k_alinit0 hal) (cwI 0 C.1.2.2.2.2 gJx4a65c_init_da8c8_Jxc12de_init_da8c8 rfl rfl rfl (C.1.2.2.2.2 _ wwJx4a65c_init_da8c8_in_Jxc12de_init_da8c8) (C.1.2.2.2.2 _ wwJx4a65c_init_da8c8_ml1) (C.1.2.2.2.2 _ wwJx4a65c_init_da8c8_im_Jxc12de_init_da8c8) rfl (by decide +kernel) ⟨Nat.le_of_ble_eq_true rfl, Nat.le_of_ble_eq_true rfl⟩) rfl dJx4a65c_init_da8c8_1 (rest := []) (Nat.le_of_ble_eq_true rfl) rfl ⟨(by first | exact Nat.le_of_ble_eq_true rfl | (dsimp only; omega)), (by first | exact Nat.le_of_ble_eq_true rfl | (dsimp only; omega))⟩) (fun x' hx' => ?_)
  subst hx'
  have hal' : va_up f al (alE 0 none 0) al = alE 0 none 0 := va_up_same _ _ _
  refine v_aload_n C dJx4a65c_init_da8c8_4 (j := 0) rfl rfl ?_
  refine v_getz C dJx4a65c_init_da8c8_5 wwJx4a65c_init_da8c8_z39 rfl ?_
  refine v_put C (T := TJx4a65c) (ci := 0) (j := 1) (ty := (.array (.object "java/lang/Object"))) dJx4a65c_init_da8c8_8 wiJx4a65c_init_da8c8_Jx4a65c tyJx4a65c tyJx4a65c_ok nmJx4a65c rfl (by decide) wfJx4a65c_init_da8c8_9 (fun _ h => h) rfl rfl (rfl) (rfl) (FF_put hal' (Nat.le_of_ble_eq_true rfl)) ?_
  exact v_return C dJx4a65c_init_da8c8_11 hr (Nat.le_of_ble_eq_true rfl) (Nat.le_of_ble_eq_true rfl) (by rw [up_up]; rfl)
set_option maxRecDepth 100000 in
set_option maxHeartbeats 4000000 in
theorem k_lsize (hal : alI f z0 cO al ea xs) : ct D tys z0 A (picF D cC A) l yJx4a65c_size_8abf5 wsJx4a65c_size_8abf5 rm0 [.ref al] (f, T) (qI (picF D cC A) A (fun r x => x = (f, T) ∧ r = nI xs.length)) := by
  obtain ⟨⟨mc, h1⟩, -⟩ := hal
  refine ct_of "java/util/ArrayList" (by decide +kernel) rfl rfl (Nat.le_of_ble_eq_true rfl) ?_
  intro p e s m below meth c C hr hm
  refine v_lv (lv' := [(0, _)]) rfl ?_
  refine v_aload_n C dJx4a65c_size_8abf5_0 (j := 0) rfl rfl ?_
  refine v_get C (T := TJx4a65c) (ci := 0) (j := 2) dJx4a65c_size_8abf5_1 wiJx4a65c_size_8abf5_Jx4a65c rfl (by decide) wfJx4a65c_size_8abf5_48 (fun _ h => h) (FF_get h1 rfl) ?_
  exact v_ireturn C dJx4a65c_size_8abf5_4 hr (rfl) (Nat.le_of_ble_eq_true rfl) (Nat.le_of_ble_eq_true rfl) (⟨rfl, rfl⟩)
set_option maxRecDepth 100000 in
set_option maxHeartbeats 4000000 in
theorem k_pcheck {σ : Type} {pic : σ → Heap → Prop} {x : σ} {i n : Nat} (hi : i < n) (hn : n < 2 ^ 31) : ct D tys z0 A pic l yJ3_checkIndex_8e157 wsJ3_checkIndex_8e157 rm0 [.int (nI i), .int (nI n), .null] x (qI pic A (fun r x' => x' = x ∧ r = nI i)) := by
  refine ct_of "jdk/internal/util/Preconditions" (by decide +kernel) rfl rfl (Nat.le_of_ble_eq_true rfl) ?_
  intro p e s m below meth c C hr hm
  refine v_lv (lv' := [(0, _), (1, _), (2, _)]) rfl ?_
  refine v_iload_n C dJ3_checkIndex_8e157_0 (j := 0) rfl rfl ?_
  refine v_if_lt C 9 dJ3_checkIndex_8e157_1 (by decide) (fun c1 => absurd c1 (by intro; exact (Int32.not_lt.mpr (nI_pos' (by omega))) c1)) (fun c1 => ?_)
  refine v_iload_n C dJ3_checkIndex_8e157_4 (j := 0) rfl rfl ?_
  refine v_iload_n C dJ3_checkIndex_8e157_5 (j := 1) rfl rfl ?_
  refine v_icmp_lt C 16 dJ3_checkIndex_8e157_6 (by decide) (fun c2 => ?_) (fun c2 => absurd c2 (by intro h; exact c2 ((nI_ltI (by omega) hn).mpr hi)))
  refine v_iload_n C dJ3_checkIndex_8e157_16 (j := 0) rfl rfl ?_
  exact v_ireturn C dJ3_checkIndex_8e157_17 hr (rfl) (Nat.le_of_ble_eq_true rfl) (Nat.le_of_ble_eq_true rfl) (⟨rfl, rfl⟩)
set_option maxRecDepth 100000 in
set_option maxHeartbeats 4000000 in
theorem k_ocheck {σ : Type} {pic : σ → Heap → Prop} {x : σ} {i n : Nat} (hi : i < n) (hn : n < 2 ^ 31) : ct D tys z0 A pic l yJ15_checkIndex_7cf53 wsJ15_checkIndex_7cf53 (rmL 1 22) [.int (nI i), .int (nI n)] x (qI pic A (fun r x' => x' = x ∧ r = nI i)) := by
  refine ct_of "java/util/Objects" (by decide +kernel) rfl rfl (Nat.le_of_ble_eq_true rfl) ?_
  intro p e s m below meth c C hr hm
  refine v_lv (lv' := [(0, _), (1, _)]) rfl ?_
  refine v_iload_n C dJ15_checkIndex_7cf53_0 (j := 0) rfl rfl ?_
  refine v_iload_n C dJ15_checkIndex_7cf53_1 (j := 1) rfl rfl ?_
  refine v_null C dJ15_checkIndex_7cf53_2 ?_
  refine v_ci (v_runS C (k_pcheck hi hn) (va_cwS 3 C.1.2.2.2.2 gJ15_checkIndex_7cf53_J3_checkIndex_8e157 rfl rfl rfl (by decide +kernel) ⟨Nat.le_of_ble_eq_true rfl, Nat.le_of_ble_eq_true rfl⟩) rfl dJ15_checkIndex_7cf53_3 (rest := []) (Nat.le_of_ble_eq_true rfl) rfl ⟨(by first | exact Nat.le_of_ble_eq_true rfl | (dsimp only; omega)), (by first | exact Nat.le_of_ble_eq_true rfl | (dsimp only; omega))⟩) (fun r x' hx' => ?_)
  obtain ⟨rfl, rfl⟩ := hx'
  exact v_ireturn C dJ15_checkIndex_7cf53_6 hr (rfl) (Nat.le_of_ble_eq_true rfl) (Nat.le_of_ble_eq_true rfl) (⟨rfl, rfl⟩)
set_option maxRecDepth 100000 in
set_option maxHeartbeats 4000000 in
theorem k_ldata (ht5 : tys[5]? = some (cO, .object "java/lang/Object")) (hal : alI f z0 cO al ea xs) {i : Nat} (hi : i < xs.length) : ct D tys z0 A (picF D cC A) l yJx4a65c_elementData_915e3 wsJx4a65c_elementData_915e3 rm0 [.ref al, .int (nI i)] (f, T) (qR (picF D cC A) A (fun r x => x = (f, T) ∧ r = xs.getD i 0)) := by
  obtain ⟨⟨mc, h1⟩, h2, h3⟩ := hal
  rw [if_neg (by intro h; rw [h] at hi; cases hi)] at h3
  obtain ⟨rf, h4, h5⟩ := h3
  refine ct_of "java/util/ArrayList" (by decide +kernel) rfl rfl (Nat.le_of_ble_eq_true rfl) ?_
  intro p e s m below meth c C hr hm
  refine v_lv (lv' := [(0, _), (1, _)]) rfl ?_
  refine v_aload_n C dJx4a65c_elementData_915e3_0 (j := 0) rfl rfl ?_
  refine v_get C (T := TJx4a65c) (ci := 0) (j := 1) dJx4a65c_elementData_915e3_1 wiJx4a65c_elementData_915e3_Jx4a65c rfl (by decide) wfJx4a65c_elementData_915e3_9 (fun _ h => h) (FF_get h1 rfl) ?_
  refine v_iload_n C dJx4a65c_elementData_915e3_4 (j := 1) rfl rfl ?_
  refine v_aald C dJx4a65c_elementData_915e3_5 5 ht5 (FF_arr h4) (vp_in_nI (by omega) (by decide)) (w := some (xs.getD i 0)) (by rw [nI_clamp (by omega)]; exact h5 _ hi) ?_
  refine v_eq (w := .ref (xs.getD i 0)) rfl ?_
  exact v_areturn C dJx4a65c_elementData_915e3_6 hr (Or.inl ⟨_, rfl⟩) (Nat.le_of_ble_eq_true rfl) (Nat.le_of_ble_eq_true rfl) (⟨rfl, rfl⟩)
set_option maxRecDepth 100000 in
set_option maxHeartbeats 4000000 in
theorem k_lget (ht5 : tys[5]? = some (cO, .object "java/lang/Object")) (hal : alI f z0 cO al ea xs) {i : Nat} (hi : i < xs.length) : ct D tys z0 A (picF D cC A) l yJx4a65c_get_915e3 wsJx4a65c_get_915e3 (rmL 2 43) [.ref al, .int (nI i)] (f, T) (qR (picF D cC A) A (fun r x => x = (f, T) ∧ r = xs.getD i 0)) := by
  have hal2 := hal
  obtain ⟨⟨mc, h1⟩, h2, h3⟩ := hal2
  refine ct_of "java/util/ArrayList" (by decide +kernel) rfl rfl (Nat.le_of_ble_eq_true rfl) ?_
  intro p e s m below meth c C hr hm
  refine v_lv (lv' := [(0, _), (1, _)]) rfl ?_
  refine v_iload_n C dJx4a65c_get_915e3_0 (j := 1) rfl rfl ?_
  refine v_aload_n C dJx4a65c_get_915e3_1 (j := 0) rfl rfl ?_
  refine v_get C (T := TJx4a65c) (ci := 0) (j := 2) dJx4a65c_get_915e3_2 wiJx4a65c_get_915e3_Jx4a65c rfl (by decide) wfJx4a65c_get_915e3_48 (fun _ h => h) (FF_get h1 rfl) ?_
  refine v_ci (v_runS C (k_ocheck hi (by omega)) (va_cwS 2 C.1.2.2.2.2 gJx4a65c_get_915e3_J15_checkIndex_7cf53 rfl rfl rfl (by decide +kernel) ⟨Nat.le_of_ble_eq_true rfl, Nat.le_of_ble_eq_true rfl⟩) rfl dJx4a65c_get_915e3_5 (rest := []) (Nat.le_of_ble_eq_true rfl) rfl ⟨(by first | exact Nat.le_of_ble_eq_true rfl | (dsimp only; omega)), (by first | exact Nat.le_of_ble_eq_true rfl | (dsimp only; omega))⟩) (fun r x' hx' => ?_)
  obtain ⟨rfl, rfl⟩ := hx'
  refine v_pop C dJx4a65c_get_915e3_8 rfl ?_
  refine v_aload_n C dJx4a65c_get_915e3_9 (j := 0) rfl rfl ?_
  refine v_iload_n C dJx4a65c_get_915e3_10 (j := 1) rfl rfl ?_
  refine v_cr (v_runV C (k_ldata ht5 hal hi) (cwV 1 C.1.2.2.2.2 gJx4a65c_get_915e3_Jx4a65c_elementData_915e3 rfl rfl rfl (by decide +kernel) ⟨Nat.le_of_ble_eq_true rfl, Nat.le_of_ble_eq_true rfl⟩) rfl rfl ((FF_get h1 (k := 0) rfl).gC) dJx4a65c_get_915e3_11 (rest := []) (Nat.le_of_ble_eq_true rfl) rfl ⟨(by first | exact Nat.le_of_ble_eq_true rfl | (dsimp only; omega)), (by first | exact Nat.le_of_ble_eq_true rfl | (dsimp only; omega))⟩) (fun r x' hx' => ?_)
  obtain ⟨rfl, rfl⟩ := hx'
  exact v_areturn C dJx4a65c_get_915e3_14 hr (Or.inl ⟨_, rfl⟩) (Nat.le_of_ble_eq_true rfl) (Nat.le_of_ble_eq_true rfl) (⟨rfl, rfl⟩)
set_option maxRecDepth 100000 in
set_option maxHeartbeats 4000000 in
theorem k_lgrow1 (ht5 : tys[5]? = some (cO, .object "java/lang/Object")) {mc : Int32} (h1 : f al = alE mc (some z0) 0) : ct D tys z0 A (picF D cC A) l yJx4a65c_grow_92f84 wsJx4a65c_grow_92f84 ({ frames := 1, cells := 1, slots := 10, locals := 24 } : Room) [.ref al, .int 1] (f, T) (qR (picF D cC A) A (fun r x => f r = none ∧ T r = none ∧ x = (va_up (va_up f r (some (.inl (cO, 10, .inr (.inr (.inr (.inr (fun _ => none)))))))) al (alE mc (some r) 0), T))) := by
  refine ct_of "java/util/ArrayList" (by decide +kernel) rfl rfl (Nat.le_of_ble_eq_true rfl) ?_
  intro p e s m below meth c C hr hm
  refine v_lv (lv' := [(0, _), (1, _)]) rfl ?_
  refine v_aload_n C dJx4a65c_grow_92f84_0 (j := 0) rfl rfl ?_
  refine v_get C (T := TJx4a65c) (ci := 0) (j := 1) dJx4a65c_grow_92f84_1 wiJx4a65c_grow_92f84_Jx4a65c rfl (by decide) wfJx4a65c_grow_92f84_9 (fun _ h => h) (FF_get h1 rfl) ?_
  refine v_alenz C dJx4a65c_grow_92f84_4 ?_
  refine v_istore_n C dJx4a65c_grow_92f84_5 rfl (by decide) (lv' := [(2, _), (0, _), (1, _)]) rfl ?_
  refine v_iload_n C dJx4a65c_grow_92f84_6 (j := 0) rfl rfl ?_
  refine v_if_gt C 20 dJx4a65c_grow_92f84_7 (by decide) (fun c1 => absurd c1 (by intro; exact absurd c1 (by decide))) (fun c1 => ?_)
  refine v_aload_n C dJx4a65c_grow_92f84_10 (j := 1) rfl rfl ?_
  refine v_get C (T := TJx4a65c) (ci := 0) (j := 1) dJx4a65c_grow_92f84_11 wiJx4a65c_grow_92f84_Jx4a65c rfl (by decide) wfJx4a65c_grow_92f84_9 (fun _ h => h) (FF_get h1 rfl) ?_
  refine v_getz C dJx4a65c_grow_92f84_14 wwJx4a65c_grow_92f84_z39 rfl ?_
  refine v_acmp_eq (a := some z0) (b := some z0) C 45 dJx4a65c_grow_92f84_17 (by decide) (fun c2 => ?_) (fun c2 => absurd rfl c2)
  refine v_aload_n C dJx4a65c_grow_92f84_45 (j := 1) rfl rfl ?_
  refine v_bipush C dJx4a65c_grow_92f84_46 (v := 10) (by decide) ?_
  refine v_iload_n C dJx4a65c_grow_92f84_48 (j := 2) rfl rfl ?_
  refine v_mmax C dJx4a65c_grow_92f84_49 wwJx4a65c_grow_92f84_mm79 wwJx4a65c_grow_92f84_msmax wwJx4a65c_grow_92f84_mi wwJx4a65c_grow_92f84_mcmax (Nat.le_of_ble_eq_true rfl) (Nat.le_of_ble_eq_true rfl) (Nat.le_of_ble_eq_true rfl) (Nat.le_of_ble_eq_true rfl) ?_
  refine v_newq C (N := 10) dJx4a65c_grow_92f84_52 wwJx4a65c_grow_92f84_cl7 (v_nw C 21 rfl) 5 ht5 (by decide) (by decide) (by decide) (by first | exact Nat.le_of_ble_eq_true rfl | (dsimp only; omega)) (by first | exact Nat.le_of_ble_eq_true rfl | (dsimp only; omega)) (FF_new _) (fun q hq => ?_)
  have hal' : va_up f q (some (.inl (cO, 10, .inr (.inr (.inr (.inr (fun _ => none))))))) al = alE mc (some z0) 0 := by rw [va_up_other _ _ _ (fun z => by rw [← z, h1] at hq; cases hq.1)]; exact h1
  refine v_dup_x1 C dJx4a65c_grow_92f84_55 rfl rfl ?_
  refine v_put C (T := TJx4a65c) (ci := 0) (j := 1) (ty := (.array (.object "java/lang/Object"))) dJx4a65c_grow_92f84_56 wiJx4a65c_grow_92f84_Jx4a65c tyJx4a65c tyJx4a65c_ok nmJx4a65c rfl (by decide) wfJx4a65c_grow_92f84_9 (fun _ h => h) rfl rfl (rfl) (rfl) (FF_put hal' (Nat.le_of_ble_eq_true rfl)) ?_
  exact v_areturn C dJx4a65c_grow_92f84_59 hr (Or.inr ⟨_, rfl⟩) (Nat.le_of_ble_eq_true rfl) (Nat.le_of_ble_eq_true rfl) (⟨hq.1, hq.2, rfl⟩)
set_option maxRecDepth 100000 in
set_option maxHeartbeats 4000000 in
theorem k_lgrow (ht5 : tys[5]? = some (cO, .object "java/lang/Object")) {mc : Int32} (h1 : f al = alE mc (some z0) 0) : ct D tys z0 A (picF D cC A) l yJx4a65c_grow_d5877 wsJx4a65c_grow_d5877 ({ frames := 2, cells := 1, slots := 10, locals := 47 } : Room) [.ref al] (f, T) (qR (picF D cC A) A (fun r x => f r = none ∧ T r = none ∧ x = (va_up (va_up f r (some (.inl (cO, 10, .inr (.inr (.inr (.inr (fun _ => none)))))))) al (alE mc (some r) 0), T))) := by
  refine ct_of "java/util/ArrayList" (by decide +kernel) rfl rfl (Nat.le_of_ble_eq_true rfl) ?_
  intro p e s m below meth c C hr hm
  refine v_lv (lv' := [(0, _)]) rfl ?_
  refine v_aload_n C dJx4a65c_grow_d5877_0 (j := 0) rfl rfl ?_
  refine v_aload_n C dJx4a65c_grow_d5877_1 (j := 0) rfl rfl ?_
  refine v_get C (T := TJx4a65c) (ci := 0) (j := 2) dJx4a65c_grow_d5877_2 wiJx4a65c_grow_d5877_Jx4a65c rfl (by decide) wfJx4a65c_grow_d5877_48 (fun _ h => h) (FF_get h1 rfl) ?_
  refine v_iconst C dJx4a65c_grow_d5877_5 (v := 1) (by decide) ?_
  refine v_iadd C dJx4a65c_grow_d5877_6 ?_
  refine v_int (b := 1) (by decide) ?_
  refine v_cr (v_runV C (k_lgrow1 ht5 h1) (cwV 1 C.1.2.2.2.2 gJx4a65c_grow_d5877_Jx4a65c_grow_92f84 rfl rfl rfl (by decide +kernel) ⟨Nat.le_of_ble_eq_true rfl, Nat.le_of_ble_eq_true rfl⟩) rfl rfl ((FF_get h1 (k := 0) rfl).gC) dJx4a65c_grow_d5877_7 (rest := []) (Nat.le_of_ble_eq_true rfl) rfl ⟨(by first | exact Nat.le_of_ble_eq_true rfl | (dsimp only; omega)), (by first | exact Nat.le_of_ble_eq_true rfl | (dsimp only; omega))⟩) (fun r x' hx' => ?_)
  obtain ⟨e1, e2, rfl⟩ := hx'
  exact v_areturn C dJx4a65c_grow_d5877_10 hr (Or.inr ⟨_, rfl⟩) (Nat.le_of_ble_eq_true rfl) (Nat.le_of_ble_eq_true rfl) (⟨e1, e2, rfl⟩)
/-- what comes of an element more -/
def alA (f f' : Nat → Option va_E) (T : Nat → Option (List Int32)) (z0 : Nat) (cO : ClassId) (al ea q : Nat) (xs : List Nat) : Prop := ∃ ea', alI f' z0 cO al ea' (xs ++ [q]) ∧ ((ea' = ea ∧ xs ≠ []) ∨ (xs = [] ∧ f ea' = none ∧ T ea' = none)) ∧ ∀ p, p ≠ al → p ≠ ea' → f' p = f p
set_option maxRecDepth 100000 in
set_option maxHeartbeats 4000000 in
theorem k_ladd0 (ht5 : tys[5]? = some (cO, .object "java/lang/Object")) (hal : alI f z0 cO al ea xs) (hx : xs.length < 10) {r : vw_C} {ci : Nat} (hc : vwCl[ci]? = some r) (hq : ∃ vs, f q = some (.inr (ci, vs))) (hql : q ≠ al) (i : Nat) (hi : nwl[i]? = some (.castable r.1 "java/lang/Object")) : ct D tys z0 A (picF D cC A) l yJx4a65c_add_72be8 wsJx4a65c_add_72be8 ({ frames := 3, cells := 1, slots := 10, locals := 67 } : Room) [.ref al, .ref q, .ref ea, .int (nI xs.length)] (f, T) (qV (picF D cC A) A (fun x => ∃ f', x = (f', T) ∧ alA f f' T z0 cO al ea q xs)) := by
  obtain ⟨vs, hq⟩ := hq
  obtain ⟨⟨mc, h1⟩, h2, h3⟩ := hal
  refine ct_of "java/util/ArrayList" (by decide +kernel) rfl rfl (Nat.le_of_ble_eq_true rfl) ?_
  intro p e s m below meth c C hr hm
  refine v_lv (lv' := [(0, _), (1, _), (2, _), (3, _)]) rfl ?_
  by_cases hx0 : xs = []
  · skip
    rw [if_pos hx0] at h3
    subst h3
    subst hx0
    refine v_iload_n C dJx4a65c_add_72be8_0 (j := 3) rfl rfl ?_
    refine v_aload_n C dJx4a65c_add_72be8_1 (j := 2) rfl rfl ?_
    refine v_alenz C dJx4a65c_add_72be8_2 ?_
    refine v_icmp_ne C 11 dJx4a65c_add_72be8_3 (by decide) (fun c1 => absurd c1 (by intro h; exact h rfl)) (fun c1 => ?_)
    refine v_aload_n C dJx4a65c_add_72be8_6 (j := 0) rfl rfl ?_
    refine v_cr (v_runV C (k_lgrow ht5 h1) (cwV 0 C.1.2.2.2.2 gJx4a65c_add_72be8_Jx4a65c_grow_d5877 rfl rfl rfl (by decide +kernel) ⟨Nat.le_of_ble_eq_true rfl, Nat.le_of_ble_eq_true rfl⟩) rfl rfl ((FF_get h1 (k := 0) rfl).gC) dJx4a65c_add_72be8_7 (rest := []) (Nat.le_of_ble_eq_true rfl) rfl ⟨(by first | exact Nat.le_of_ble_eq_true rfl | (dsimp only; omega)), (by first | exact Nat.le_of_ble_eq_true rfl | (dsimp only; omega))⟩) (fun en x' hx' => ?_)
    obtain ⟨e1, e2, rfl⟩ := hx'
    refine v_astore_n C dJx4a65c_add_72be8_10 rfl (by decide) (lv' := [(2, _), (0, _), (1, _), (3, _)]) rfl ?_
    refine v_aload_n C dJx4a65c_add_72be8_11 (j := 0) rfl rfl ?_
    refine v_iload_n C dJx4a65c_add_72be8_12 (j := 3) rfl rfl ?_
    refine v_aload_n C dJx4a65c_add_72be8_13 (j := 2) rfl rfl ?_
    have hea : en ≠ al := fun z => by rw [z, h1] at e1; cases e1
    have heq : q ≠ en := fun z => by rw [← z, hq] at e1; cases e1
    have g1 : va_up (va_up f en (some (.inl (cO, 10, .inr (.inr (.inr (.inr (fun _ => none)))))))) al (alE mc (some en) 0) en = some (.inl (cO, 10, .inr (.inr (.inr (.inr (fun _ => none)))))) := by rw [va_up_other _ _ _ hea, va_up_same]
    have g2 : va_up (va_up f en (some (.inl (cO, 10, .inr (.inr (.inr (.inr (fun _ => none)))))))) al (alE mc (some en) 0) q = some (.inr (ci, vs)) := by rw [va_up_other _ _ _ hql, va_up_other _ _ _ heq]; exact hq
    refine v_aastO C dJx4a65c_add_72be8_14 5 ht5 hc (fun H hP => ⟨vs, by obtain ⟨ar, ln, g, hr9, hP9⟩ := hP; exact (hP9.1 q _ g2).2⟩) (v_nw C i hi) (vp_in_nI (n := 0) (N := 10) (by decide) (by decide)) (FF_arrset g1) ?_
    refine v_aload_n C dJx4a65c_add_72be8_15 (j := 1) rfl rfl ?_
    refine v_iload_n C dJx4a65c_add_72be8_16 (j := 3) rfl rfl ?_
    refine v_iconst C dJx4a65c_add_72be8_17 (v := 1) (by decide) ?_
    refine v_iadd C dJx4a65c_add_72be8_18 ?_
    refine v_int (b := nI 1) (by decide) ?_
    have g3 : va_up (va_up (va_up f en (some (.inl (cO, 10, .inr (.inr (.inr (.inr (fun _ => none)))))))) al (alE mc (some en) 0)) en (some (.inl (cO, 10, .inr (.inr (.inr (.inr (va_up (fun _ => none) (nI 0).toNatClampNeg (some q)))))))) al = alE mc (some en) 0 := by rw [va_up_other _ _ _ (Ne.symm hea), va_up_same]
    refine v_put C (T := TJx4a65c) (ci := 0) (j := 2) (ty := .int) dJx4a65c_add_72be8_19 wiJx4a65c_add_72be8_Jx4a65c tyJx4a65c tyJx4a65c_ok nmJx4a65c rfl (by decide) wfJx4a65c_add_72be8_48 (fun _ h => h) rfl rfl (rfl) (rfl) (FF_put g3 (Nat.le_of_ble_eq_true rfl)) ?_
    exact v_return C dJx4a65c_add_72be8_22 hr (Nat.le_of_ble_eq_true rfl) (Nat.le_of_ble_eq_true rfl) (⟨_, rfl, en, ⟨⟨mc, va_up_same _ _ _⟩, by simp, by simp; exact ⟨va_up (fun _ => none) (nI 0).toNatClampNeg (some q), by rw [va_up_other _ _ _ hea, va_up_same], by rw [show (nI 0).toNatClampNeg = 0 from rfl, va_up_same]⟩⟩, Or.inr ⟨rfl, e1, e2⟩, fun p hp1 hp2 => by rw [va_up_other _ _ _ hp1, va_up_other _ _ _ hp2, va_up_other _ _ _ hp1, va_up_other _ _ _ hp2]⟩)
  · skip
    rw [if_neg hx0] at h3
    obtain ⟨rf, h4, h5⟩ := h3
    refine v_iload_n C dJx4a65c_add_72be8_0 (j := 3) rfl rfl ?_
    refine v_aload_n C dJx4a65c_add_72be8_1 (j := 2) rfl rfl ?_
    refine v_alen C (v := nI 10) dJx4a65c_add_72be8_2 5 ht5 (FF_arr h4) rfl ?_
    refine v_icmp_ne C 11 dJx4a65c_add_72be8_3 (by decide) (fun c1 => ?_) (fun c1 => absurd c1 (by intro h; have := congrArg Int32.toNatClampNeg h; rw [nI_clamp (by omega), nI_clamp (by omega)] at this; omega))
    refine v_aload_n C dJx4a65c_add_72be8_11 (j := 2) rfl rfl ?_
    refine v_iload_n C dJx4a65c_add_72be8_12 (j := 3) rfl rfl ?_
    refine v_aload_n C dJx4a65c_add_72be8_13 (j := 1) rfl rfl ?_
    refine v_aastO C dJx4a65c_add_72be8_14 5 ht5 hc (fun H hP => ⟨vs, by obtain ⟨ar, ln, g, hr9, hP9⟩ := hP; exact (hP9.1 q _ hq).2⟩) (v_nw C i hi) (vp_in_nI hx (by decide)) (FF_arrset h4) ?_
    refine v_aload_n C dJx4a65c_add_72be8_15 (j := 0) rfl rfl ?_
    refine v_iload_n C dJx4a65c_add_72be8_16 (j := 3) rfl rfl ?_
    refine v_iconst C dJx4a65c_add_72be8_17 (v := 1) (by decide) ?_
    refine v_iadd C dJx4a65c_add_72be8_18 ?_
    rw [nI_1, nI_clamp (by omega)]
    have hea : ea ≠ al := fun z => by rw [z, h1] at h4; cases h4
    have g3 : va_up f ea (some (.inl (cO, 10, .inr (.inr (.inr (.inr (va_up rf xs.length (some q)))))))) al = alE mc (some ea) xs.length := by rw [va_up_other _ _ _ (Ne.symm hea)]; exact h1
    refine v_put C (T := TJx4a65c) (ci := 0) (j := 2) (ty := .int) dJx4a65c_add_72be8_19 wiJx4a65c_add_72be8_Jx4a65c tyJx4a65c tyJx4a65c_ok nmJx4a65c rfl (by decide) wfJx4a65c_add_72be8_48 (fun _ h => h) rfl rfl (rfl) (rfl) (FF_put g3 (Nat.le_of_ble_eq_true rfl)) ?_
    exact v_return C dJx4a65c_add_72be8_22 hr (Nat.le_of_ble_eq_true rfl) (Nat.le_of_ble_eq_true rfl) (⟨_, rfl, ea, ⟨⟨mc, by rw [va_up_same, List.length_append]; rfl⟩, by simp; omega, by rw [if_neg (by simp)]; exact ⟨va_up rf xs.length (some q), by rw [va_up_other _ _ _ hea, va_up_same], fun j hj => by simp only [List.length_append, List.length_singleton] at hj; by_cases hjx : j = xs.length; subst hjx; rw [va_up_same]; simp [List.getD_eq_getElem?_getD]; rw [va_up_other _ _ _ hjx, h5 j (by omega)]; simp only [List.getD_eq_getElem?_getD]; rw [List.getElem?_append_left (by omega)]⟩⟩, Or.inl ⟨rfl, hx0⟩, fun p hp1 hp2 => by rw [va_up_other _ _ _ hp1, va_up_other _ _ _ hp2]⟩)
set_option maxRecDepth 100000 in
set_option maxHeartbeats 4000000 in
theorem k_ladd (ht5 : tys[5]? = some (cO, .object "java/lang/Object")) (hal : alI f z0 cO al ea xs) (hx : xs.length < 10) {r : vw_C} {ci : Nat} (hc : vwCl[ci]? = some r) (hq : ∃ vs, f q = some (.inr (ci, vs))) (hql : q ≠ al) (i : Nat) (hi : nwl[i]? = some (.castable r.1 "java/lang/Object")) : ct D tys z0 A (picF D cC A) l yJx4a65c_add_9ea2d wsJx4a65c_add_9ea2d ({ frames := 4, cells := 1, slots := 10, locals := 90 } : Room) [.ref al, .ref q] (f, T) (qI (picF D cC A) A (fun _ x => ∃ f', x = (f', T) ∧ alA f f' T z0 cO al ea q xs)) := by
  obtain ⟨vs, hq⟩ := hq
  obtain ⟨⟨mc, h1⟩, h2, h3⟩ := hal
  refine ct_of "java/util/ArrayList" (by decide +kernel) rfl rfl (Nat.le_of_ble_eq_true rfl) ?_
  intro p e s m below meth c C hr hm
  refine v_lv (lv' := [(0, _), (1, _)]) rfl ?_
  refine v_aload_n C dJx4a65c_add_9ea2d_0 (j := 0) rfl rfl ?_
  refine v_dup C dJx4a65c_add_9ea2d_1 rfl ?_
  refine v_get C (T := TJx4a65c) (ci := 0) (j := 0) dJx4a65c_add_9ea2d_2 wiJx4a65c_add_9ea2d_Jx4a65c rfl (by decide) wfJx4a65c_add_9ea2d_63 (fun z hz => u_same (C.1.2.2.2.2 _ wwJx4a65c_add_9ea2d_sf) z hz) (FF_get h1 rfl) ?_
  refine v_iconst C dJx4a65c_add_9ea2d_5 (v := 1) (by decide) ?_
  refine v_iadd C dJx4a65c_add_9ea2d_6 ?_
  refine v_put C (T := TJx4a65c) (ci := 0) (j := 0) (ty := .int) dJx4a65c_add_9ea2d_7 wiJx4a65c_add_9ea2d_Jx4a65c tyJx4a65c tyJx4a65c_ok nmJx4a65c rfl (by decide) wfJx4a65c_add_9ea2d_63 (fun z hz => u_same (C.1.2.2.2.2 _ wwJx4a65c_add_9ea2d_sf) z hz) rfl rfl (rfl) (rfl) (FF_put h1 (Nat.le_of_ble_eq_true rfl)) ?_
  have h1' : va_up f al (alE (mc + 1) (some ea) xs.length) al = alE (mc + 1) (some ea) xs.length := va_up_same _ _ _
  have hal' : alI (va_up f al (alE (mc + 1) (some ea) xs.length)) z0 cO al ea xs := by
      refine ⟨⟨_, h1'⟩, h2, ?_⟩
      split
      · rename_i h; rw [if_pos h] at h3; exact h3
      · rename_i h
        rw [if_neg h] at h3
        obtain ⟨rf, h4, h5⟩ := h3
        exact ⟨rf, by rw [va_up_other _ _ _ (fun z => by rw [z, h1] at h4; cases h4)]; exact h4, h5⟩
  refine v_aload_n C dJx4a65c_add_9ea2d_10 (j := 0) rfl rfl ?_
  refine v_aload_n C dJx4a65c_add_9ea2d_11 (j := 1) rfl rfl ?_
  refine v_aload_n C dJx4a65c_add_9ea2d_12 (j := 0) rfl rfl ?_
  refine v_get C (T := TJx4a65c) (ci := 0) (j := 1) dJx4a65c_add_9ea2d_13 wiJx4a65c_add_9ea2d_Jx4a65c rfl (by decide) wfJx4a65c_add_9ea2d_9 (fun _ h => h) (FF_get h1' rfl) ?_
  refine v_aload_n C dJx4a65c_add_9ea2d_16 (j := 0) rfl rfl ?_
  refine v_get C (T := TJx4a65c) (ci := 0) (j := 2) dJx4a65c_add_9ea2d_17 wiJx4a65c_add_9ea2d_Jx4a65c rfl (by decide) wfJx4a65c_add_9ea2d_48 (fun _ h => h) (FF_get h1' rfl) ?_
  refine v_cv (v_runV C (k_ladd0 ht5 hal' hx hc ⟨vs, by rw [va_up_other _ _ _ hql]; exact hq⟩ hql i hi) (cwV 3 C.1.2.2.2.2 gJx4a65c_add_9ea2d_Jx4a65c_add_72be8 rfl rfl rfl (by decide +kernel) ⟨Nat.le_of_ble_eq_true rfl, Nat.le_of_ble_eq_true rfl⟩) rfl rfl ((FF_get h1' (k := 0) rfl).gC) dJx4a65c_add_9ea2d_20 (rest := []) (Nat.le_of_ble_eq_true rfl) rfl ⟨(by first | exact Nat.le_of_ble_eq_true rfl | (dsimp only; omega)), (by first | exact Nat.le_of_ble_eq_true rfl | (dsimp only; omega))⟩) (fun x' hx' => ?_)
  obtain ⟨f', rfl, ea', g1, g2, g3⟩ := hx'
  refine v_iconst C dJx4a65c_add_9ea2d_23 (v := 1) (by decide) ?_
  exact v_ireturn C dJx4a65c_add_9ea2d_24 hr (rfl) (Nat.le_of_ble_eq_true rfl) (Nat.le_of_ble_eq_true rfl) (⟨f', rfl, ea', g1, g2.imp id (fun h => ⟨h.1, by have h9 := h.2.1; by_cases hz9 : ea' = al; rw [hz9, va_up_same] at h9; cases h9; rw [va_up_other _ _ _ hz9] at h9; exact h9, h.2.2⟩), fun p hp1 hp2 => by rw [g3 p hp1 hp2, va_up_other _ _ _ hp1]⟩)
end AL
