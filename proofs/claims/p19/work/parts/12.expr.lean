/-! ===== expressions: combine, the tree, the stack machine ===== -/
theorem wwX11_isInt_k280 : Cond.constantLong RX11 280 (-2147483648) ∈ wsX11_isInt := by decide +kernel
theorem wwX11_isInt_k282 : Cond.constantLong RX11 282 (2147483647) ∈ wsX11_isInt := by decide +kernel
theorem wfX2_find_7 : Cond.fieldLink RX2 7 "FieldScribe$Leaf" (TX2 0).2.1 (TX2 0).2.2.1 ∈ wsX2_find := by decide +kernel
theorem wiX2_find_X2 : ∀ w ∈ u_ws RX2 TX2 1, w ∈ wsX2_find := by decide +kernel
theorem wfX1_find_20 : Cond.fieldLink RX1 20 "FieldScribe$Fork" (TX1 1).2.1 (TX1 1).2.2.1 ∈ wsX1_find := by decide +kernel
theorem wiX1_find_X1 : ∀ w ∈ u_ws RX1 TX1 4, w ∈ wsX1_find := by decide +kernel
theorem wfX1_find_24 : Cond.fieldLink RX1 24 "FieldScribe$Fork" (TX1 2).2.1 (TX1 2).2.2.1 ∈ wsX1_find := by decide +kernel
theorem wfX1_find_10 : Cond.fieldLink RX1 10 "FieldScribe$Fork" (TX1 3).2.1 (TX1 3).2.2.1 ∈ wsX1_find := by decide +kernel
theorem wfX1_find_16 : Cond.fieldLink RX1 16 "FieldScribe$Fork" (TX1 0).2.1 (TX1 0).2.2.1 ∈ wsX1_find := by decide +kernel
theorem wwX1_find_in_X11_combine : Cond.initialized yX11_combine.cls ∈ wsX1_find := by decide +kernel
theorem wwX1_find_st_X11_combine : Cond.static yX11_combine ∈ wsX1_find := by decide +kernel
theorem wfX8_run_13 : Cond.fieldLink RX8 13 "FieldScribe$StackMachine" (TX8 0).2.1 (TX8 0).2.2.1 ∈ wsX8_run := by decide +kernel
theorem wiX8_run_X8 : ∀ w ∈ u_ws RX8 TX8 1, w ∈ wsX8_run := by decide +kernel
theorem wwX8_run_in_X11_combine : Cond.initialized yX11_combine.cls ∈ wsX8_run := by decide +kernel
theorem wwX8_run_st_X11_combine : Cond.static yX11_combine ∈ wsX8_run := by decide +kernel
def isI (z : Int64) : Bool := decide (-2147483648 ≤ z) && decide (z ≤ 2147483647)
def fitI (z : Int64) : Int32 := if isI z = true then z.toInt32 else 0
def fltI (z : Int64) : Int32 := if isI z = true then 0 else 1
def calO (op : Int32) (a b : Int64) : Int64 := if op = 1 then a + b else if op = 2 then a - b else if op = 3 then a * b else a
def exT (op : Int32) (s u : List Int32) : List Int32 := if op = 4 then app60 s u else dec (fitI (calO op (num s).toInt64 (num u).toInt64))
def exF (op : Int32) (s u : List Int32) : Int32 := if op = 4 then 0 else fltI (calO op (num s).toInt64 (num u).toInt64)
theorem lc_lt (a b : Int64) : lg_cmp a b < 0 ↔ a < b := by
  unfold lg_cmp
  by_cases h : b < a
  · rw [if_pos h]; exact ⟨fun z => absurd z (by decide), fun z => absurd z (Int64.lt_asymm h)⟩
  · rw [if_neg h]
    by_cases h2 : a = b
    · rw [if_pos h2, h2]; exact ⟨fun z => absurd z (by decide), fun z => absurd z Int64.lt_irrefl⟩
    · rw [if_neg h2]
      refine ⟨fun _ => ?_, fun _ => by decide⟩
      rcases Int64.lt_or_eq_of_le (Int64.not_lt.mp h) with q | q
      · exact q
      · exact absurd q h2
theorem lc_gt (a b : Int64) : 0 < lg_cmp a b ↔ b < a := by
  unfold lg_cmp
  by_cases h : b < a
  · rw [if_pos h]; exact ⟨fun _ => h, fun _ => by decide⟩
  · rw [if_neg h]
    by_cases h2 : a = b
    · rw [if_pos h2]; exact ⟨fun z => absurd z (by decide), fun z => absurd z h⟩
    · rw [if_neg h2]; exact ⟨fun z => absurd z (by decide), fun z => absurd z h⟩
theorem i32_ne {a b : Int32} (h : ¬ a = b) : a.toInt ≠ b.toInt := fun z => h (Int32.toInt_inj.mp z)
theorem up3 {α : Type} (f : Nat → α) (k j : Nat) (a b c : α) : va_up (va_up (va_up f k a) j b) k c = va_up (va_up f j b) k c := by
  funext q
  by_cases q1 : q = k
  · rw [q1, va_up_same, va_up_same]
  · rw [va_up_other _ _ _ q1, va_up_other _ _ _ q1]
    by_cases q2 : q = j
    · rw [q2, va_up_same, va_up_same]
    · rw [va_up_other _ _ _ q2, va_up_other _ _ _ q1, va_up_other _ _ _ q2]
section EX
variable {l : Launch} {D : va_G} {tys : List (ClassId × FieldType)} {z0 : Nat} {A : Nat → Prop} {cC cT cI : ClassId} {f : Nat → Option va_E} {T : Nat → Option (List Int32)} {pg wh pa t o lf fk l1 l2 sc sm sa s1 s2 cd : Nat} {pc : Nat → Nat} {sep num : Int32} {r v u0 s0 : List Int32}
set_option maxRecDepth 100000 in
set_option maxHeartbeats 4000000 in
theorem k_isInt {σ : Type} {pic : σ → Heap → Prop} {x : σ} (z : Int64) : ct D tys z0 A pic l yX11_isInt wsX11_isInt rm0 [.long z] x (qI pic A (fun r x' => x' = x ∧ r = bI (isI z))) := by
  refine ct_of RX11 (by decide +kernel) rfl rfl (Nat.le_of_ble_eq_true rfl) ?_
  intro p e s m below meth c C hr hm
  refine v_lv (lv' := [(0, _)]) rfl ?_
  refine v_lload_n C dX11_isInt_0 (j := 0) rfl rfl ?_
  refine v_ldc2 C dX11_isInt_1 (v := (-2147483648)) wwX11_isInt_k280 ?_
  refine v_lcmp C dX11_isInt_4 ?_
  refine v_if_lt C 20 dX11_isInt_5 (by decide) (fun c1 => ?_) (fun c1 => ?_)
  · skip
    refine v_iconst C dX11_isInt_20 (v := 0) (by decide) ?_
    exact v_ireturn C dX11_isInt_21 hr (rfl) (Nat.le_of_ble_eq_true rfl) (Nat.le_of_ble_eq_true rfl) (⟨rfl, bI_f (by unfold isI; rw [decide_eq_false (Int64.not_le.mpr ((lc_lt _ _).mp c1))]; rfl)⟩)
  · skip
    refine v_lload_n C dX11_isInt_8 (j := 0) rfl rfl ?_
    refine v_ldc2 C dX11_isInt_9 (v := (2147483647)) wwX11_isInt_k282 ?_
    refine v_lcmp C dX11_isInt_12 ?_
    refine v_if_gt C 20 dX11_isInt_13 (by decide) (fun c2 => ?_) (fun c2 => ?_)
    · skip
      refine v_iconst C dX11_isInt_20 (v := 0) (by decide) ?_
      exact v_ireturn C dX11_isInt_21 hr (rfl) (Nat.le_of_ble_eq_true rfl) (Nat.le_of_ble_eq_true rfl) (⟨rfl, bI_f (by unfold isI; rw [decide_eq_false (p := z ≤ 2147483647) (Int64.not_le.mpr ((lc_gt _ _).mp c2)), Bool.and_false])⟩)
    · skip
      refine v_iconst C dX11_isInt_16 (v := 1) (by decide) ?_
      refine v_goto C 21 dX11_isInt_17 (by decide) ?_
      exact v_ireturn C dX11_isInt_21 hr (rfl) (Nat.le_of_ble_eq_true rfl) (Nat.le_of_ble_eq_true rfl) (⟨rfl, bI_t (by unfold isI; rw [decide_eq_true (Int64.not_lt.mp (fun q => c1 ((lc_lt _ _).mpr q))), decide_eq_true (Int64.not_lt.mp (fun q => c2 ((lc_gt _ _).mpr q)))]; rfl)⟩)
set_option maxRecDepth 100000 in
set_option maxHeartbeats 4000000 in
theorem k_calculate {σ : Type} {pic : σ → Heap → Prop} {x : σ} (op : Int32) (a b : Int64) : ct D tys z0 A pic l yX11_calculate wsX11_calculate rm0 [.int op, .long a, .long b] x (qL pic A (fun r x' => x' = x ∧ r = calO op a b)) := by
  refine ct_of RX11 (by decide +kernel) rfl rfl (Nat.le_of_ble_eq_true rfl) ?_
  intro p e s m below meth c C hr hm
  refine v_lv (lv' := [(0, _), (1, _), (3, _)]) rfl ?_
  by_cases h1 : op = 1
  · skip
    refine v_iload_n C dX11_calculate_0 (j := 0) rfl rfl ?_
    refine v_tabIn C 28 dX11_calculate_1 (off := 27) (by rw [h1]; decide) (by rw [h1]; decide) (by rw [h1]; rfl) (by decide) ?_
    refine v_lload_n C dX11_calculate_28 (j := 1) rfl rfl ?_
    refine v_lload_n C dX11_calculate_29 (j := 2) rfl rfl ?_
    refine v_ladd C dX11_calculate_30 ?_
    exact v_lreturn C dX11_calculate_31 hr (Nat.le_of_ble_eq_true rfl) (Nat.le_of_ble_eq_true rfl) (⟨rfl, by unfold calO; rw [if_pos h1]⟩)
  · skip
    by_cases h2 : op = 2
    · skip
      refine v_iload_n C dX11_calculate_0 (j := 0) rfl rfl ?_
      refine v_tabIn C 32 dX11_calculate_1 (off := 31) (by rw [h2]; decide) (by rw [h2]; decide) (by rw [h2]; rfl) (by decide) ?_
      refine v_lload_n C dX11_calculate_32 (j := 1) rfl rfl ?_
      refine v_lload_n C dX11_calculate_33 (j := 2) rfl rfl ?_
      refine v_lsub C dX11_calculate_34 ?_
      exact v_lreturn C dX11_calculate_35 hr (Nat.le_of_ble_eq_true rfl) (Nat.le_of_ble_eq_true rfl) (⟨rfl, by unfold calO; rw [if_neg h1, if_pos h2]⟩)
    · skip
      by_cases h3 : op = 3
      · skip
        refine v_iload_n C dX11_calculate_0 (j := 0) rfl rfl ?_
        refine v_tabIn C 36 dX11_calculate_1 (off := 35) (by rw [h3]; decide) (by rw [h3]; decide) (by rw [h3]; rfl) (by decide) ?_
        refine v_lload_n C dX11_calculate_36 (j := 1) rfl rfl ?_
        refine v_lload_n C dX11_calculate_37 (j := 2) rfl rfl ?_
        refine v_lmul C dX11_calculate_38 ?_
        exact v_lreturn C dX11_calculate_39 hr (Nat.le_of_ble_eq_true rfl) (Nat.le_of_ble_eq_true rfl) (⟨rfl, by unfold calO; rw [if_neg h1, if_neg h2, if_pos h3]⟩)
      · skip
        refine v_iload_n C dX11_calculate_0 (j := 0) rfl rfl ?_
        refine v_tabOut C 40 dX11_calculate_1 (by have q1 := i32_ne h1; have q2 := i32_ne h2; have q3 := i32_ne h3; rw [show (1 : Int32).toInt = 1 from rfl] at q1; rw [show (2 : Int32).toInt = 2 from rfl] at q2; rw [show (3 : Int32).toInt = 3 from rfl] at q3; omega) (by decide) ?_
        refine v_lload_n C dX11_calculate_40 (j := 1) rfl rfl ?_
        exact v_lreturn C dX11_calculate_41 hr (Nat.le_of_ble_eq_true rfl) (Nat.le_of_ble_eq_true rfl) (⟨rfl, by unfold calO; rw [if_neg h1, if_neg h2, if_neg h3]⟩)
set_option maxRecDepth 100000 in
set_option maxHeartbeats 4000000 in
theorem k_combine (ht : tys[0]? = some (cC, .char)) (hT : T t = some s0) (hO : T o = some u0) (hto : o ≠ t) (op : Int32) : ct D tys z0 A (picF D cC A) l yX11_combine wsX11_combine (rmL 2 46) [.int op, .ref t, .ref o] (f, T) (qI (picF D cC A) A (fun r x => x = (f, va_up T t (some (exT op s0 u0))) ∧ r = exF op s0 u0)) := by
  refine ct_of RX11 (by decide +kernel) rfl rfl (Nat.le_of_ble_eq_true rfl) ?_
  intro p e s m below meth c C hr hm
  refine v_lv (lv' := [(0, _), (1, _), (2, _)]) rfl ?_
  refine v_iload_n C dX11_combine_0 (j := 0) rfl rfl ?_
  refine v_iconst C dX11_combine_1 (v := 4) (by decide) ?_
  refine v_icmp_ne C 12 dX11_combine_2 (by decide) (fun c1 => ?_) (fun c1 => ?_)
  · skip
    refine v_iload_n C dX11_combine_12 (j := 0) rfl rfl ?_
    refine v_aload_n C dX11_combine_13 (j := 1) rfl rfl ?_
    refine v_ci (v_runV C (k_asNumber ht hT) (cwV 0 C.1.2.2.2.2 gX11_combine_X10_asNumber rfl rfl rfl (by decide +kernel) ⟨Nat.le_of_ble_eq_true rfl, Nat.le_of_ble_eq_true rfl⟩) rfl rfl (FF_txt hT) dX11_combine_14 (rest := [_]) (Nat.le_of_ble_eq_true rfl) rfl ⟨Nat.le_of_ble_eq_true rfl, Nat.le_of_ble_eq_true rfl⟩) (fun r x' hx' => ?_)
    obtain ⟨rfl, rfl⟩ := hx'
    refine v_i2l C dX11_combine_17 ?_
    refine v_aload_n C dX11_combine_18 (j := 2) rfl rfl ?_
    refine v_ci (v_runV C (k_asNumber ht hO) (cwV 0 C.1.2.2.2.2 gX11_combine_X10_asNumber rfl rfl rfl (by decide +kernel) ⟨Nat.le_of_ble_eq_true rfl, Nat.le_of_ble_eq_true rfl⟩) rfl rfl (FF_txt hO) dX11_combine_19 (rest := [_, _]) (Nat.le_of_ble_eq_true rfl) rfl ⟨Nat.le_of_ble_eq_true rfl, Nat.le_of_ble_eq_true rfl⟩) (fun r x' hx' => ?_)
    obtain ⟨rfl, rfl⟩ := hx'
    refine v_i2l C dX11_combine_22 ?_
    refine v_cl (v_runS C (k_calculate op (num s0).toInt64 (num u0).toInt64) (va_cwS 3 C.1.2.2.2.2 gX11_combine_X11_calculate rfl rfl rfl (by decide +kernel) ⟨Nat.le_of_ble_eq_true rfl, Nat.le_of_ble_eq_true rfl⟩) rfl dX11_combine_23 (rest := []) (Nat.le_of_ble_eq_true rfl) rfl ⟨Nat.le_of_ble_eq_true rfl, Nat.le_of_ble_eq_true rfl⟩) (fun r x' hx' => ?_)
    obtain ⟨rfl, rfl⟩ := hx'
    obtain ⟨z, hz⟩ : ∃ z, z = calO op (num s0).toInt64 (num u0).toInt64 := ⟨_, rfl⟩
    rw [← hz]
    have e1 : exT op s0 u0 = dec (fitI z) := by unfold exT; rw [if_neg c1, ← hz]
    have e2 : exF op s0 u0 = fltI z := by unfold exF; rw [if_neg c1, ← hz]
    refine v_lstore_n C dX11_combine_26 rfl (by decide) (lv' := [(3, _), (0, _), (1, _), (2, _)]) rfl ?_
    refine v_lload_n C dX11_combine_27 (j := 0) rfl rfl ?_
    refine v_ci (v_runS C (k_isInt z) (va_cwS 1 C.1.2.2.2.2 gX11_combine_X11_isInt rfl rfl rfl (by decide +kernel) ⟨Nat.le_of_ble_eq_true rfl, Nat.le_of_ble_eq_true rfl⟩) rfl dX11_combine_28 (rest := []) (Nat.le_of_ble_eq_true rfl) rfl ⟨Nat.le_of_ble_eq_true rfl, Nat.le_of_ble_eq_true rfl⟩) (fun r x' hx' => ?_)
    obtain ⟨rfl, rfl⟩ := hx'
    refine v_istore C dX11_combine_31 (by decide) (lv' := [(5, _), (3, _), (0, _), (1, _), (2, _)]) rfl ?_
    refine v_aload_n C dX11_combine_33 (j := 3) rfl rfl ?_
    refine v_iload C dX11_combine_34 (j := 0) rfl ?_
    refine v_cut (pcj := 45) (lvj := [(5, .int (bI (isI z))), (3, .long z), (0, .int op), (1, .ref t), (2, .ref o)]) (stj := [.ref t]) (fun w => w = fitI z) (fun w hw => ?_) (fun K => ?_)
    · skip
      subst hw
      refine v_cv (v_runV C (k_write ht hT (fitI z)) (cwV 1 C.1.2.2.2.2 gX11_combine_X10_write rfl rfl rfl (by decide +kernel) ⟨Nat.le_of_ble_eq_true rfl, Nat.le_of_ble_eq_true rfl⟩) rfl rfl (FF_txt hT) dX11_combine_45 (rest := []) (Nat.le_of_ble_eq_true rfl) rfl ⟨Nat.le_of_ble_eq_true rfl, Nat.le_of_ble_eq_true rfl⟩) (fun x' hx' => ?_)
      subst hx'
      refine v_iload C dX11_combine_48 (j := 0) rfl ?_
      refine v_if_eq C 57 dX11_combine_50 (by decide) (fun c2 => ?_) (fun c2 => ?_)
      · skip
        refine v_iconst C dX11_combine_57 (v := 1) (by decide) ?_
        exact v_ireturn C dX11_combine_58 hr (rfl) (Nat.le_of_ble_eq_true rfl) (Nat.le_of_ble_eq_true rfl) (⟨by rw [e1], by rw [e2]; unfold fltI; rw [if_neg (by rw [bI_0 c2]; decide)]⟩)
      · skip
        refine v_iconst C dX11_combine_53 (v := 0) (by decide) ?_
        refine v_goto C 58 dX11_combine_54 (by decide) ?_
        exact v_ireturn C dX11_combine_58 hr (rfl) (Nat.le_of_ble_eq_true rfl) (Nat.le_of_ble_eq_true rfl) (⟨by rw [e1], by rw [e2]; unfold fltI; rw [if_pos (bI_1 c2)]⟩)
    · skip
      refine v_if_eq C 44 dX11_combine_36 (by decide) (fun c2 => ?_) (fun c2 => ?_)
      · skip
        refine v_iconst C dX11_combine_44 (v := 0) (by decide) ?_
        exact K _ (by unfold fitI; rw [if_neg (by rw [bI_0 c2]; decide)])
      · skip
        refine v_lload_n C dX11_combine_39 (j := 1) rfl rfl ?_
        refine v_l2i C dX11_combine_40 ?_
        refine v_goto C 45 dX11_combine_41 (by decide) ?_
        exact K _ (by unfold fitI; rw [if_pos (bI_1 c2)])
  · skip
    refine v_aload_n C dX11_combine_5 (j := 1) rfl rfl ?_
    refine v_aload_n C dX11_combine_6 (j := 2) rfl rfl ?_
    refine v_cv (v_runV C (k_add ht hT hO hto) (cwV 1 C.1.2.2.2.2 gX11_combine_X10_add rfl rfl rfl (by decide +kernel) ⟨Nat.le_of_ble_eq_true rfl, Nat.le_of_ble_eq_true rfl⟩) rfl rfl (FF_txt hT) dX11_combine_7 (rest := []) (Nat.le_of_ble_eq_true rfl) rfl ⟨Nat.le_of_ble_eq_true rfl, Nat.le_of_ble_eq_true rfl⟩) (fun x' hx' => ?_)
    subst hx'
    refine v_iconst C dX11_combine_10 (v := 0) (by decide) ?_
    exact v_ireturn C dX11_combine_11 hr (rfl) (Nat.le_of_ble_eq_true rfl) (Nat.le_of_ble_eq_true rfl) (⟨by unfold exT; rw [if_pos c1], by unfold exF; rw [if_pos c1]⟩)
/-- an operand is found: into the text o -/
theorem k_leaf (ht : tys[0]? = some (cC, .char)) (ht4 : tys[4]? = some (cT, .object RX10)) (hO : pgO f cT pg wh pa pc sep (nI (nfd sep r)) num) (hT : pgT T wh pc sep r) {x0 : Int32} (hlf : f lf = some (.inr (3, [.int x0]))) (hx0 : okOp x0) (ht0 : T t = some v) (htw : wh ≠ t) (htp : ∀ j, j < 12 → pc j ≠ t) :
    ct D tys z0 A (picF D cC A) l yX2_find wsX2_find (rmL 2 47) [.ref lf, .ref pg, .ref t] (f, T) (qI (picF D cC A) A (fun q x => x = (f, va_up T t (some (opT sep r num x0))) ∧ q = 0)) := by
  refine ct_of RX2 (by decide +kernel) rfl rfl (Nat.le_of_ble_eq_true rfl) ?_
  intro p e s m below meth c C hr hm
  refine v_lv (lv' := [(0, _), (1, _), (2, _)]) rfl ?_
  refine v_aload_n C dX2_find_0 (j := 1) rfl rfl ?_
  refine v_aload_n C dX2_find_1 (j := 0) rfl rfl ?_
  refine v_get C (T := TX2) (ci := 3) (j := 0) dX2_find_2 wiX2_find_X2 rfl (by decide) wfX2_find_7 (fun _ h => h) (FF_get hlf rfl) ?_
  refine v_aload_n C dX2_find_5 (j := 2) rfl rfl ?_
  refine v_cv (v_runV C (k_load ht ht4 hO hT hx0 ht0 htw htp) (cwV 2 C.1.2.2.2.2 gX2_find_X4_load rfl rfl rfl (by decide +kernel) ⟨Nat.le_of_ble_eq_true rfl, Nat.le_of_ble_eq_true rfl⟩) rfl rfl ((FF_get hO.1 (k := 0) rfl).gC) dX2_find_6 (rest := []) (Nat.le_of_ble_eq_true rfl) rfl ⟨Nat.le_of_ble_eq_true rfl, Nat.le_of_ble_eq_true rfl⟩) (fun x' hx' => ?_)
  subst hx'
  refine v_iconst C dX2_find_9 (v := 0) (by decide) ?_
  exact v_ireturn C dX2_find_10 hr (rfl) (Nat.le_of_ble_eq_true rfl) (Nat.le_of_ble_eq_true rfl) (⟨rfl, rfl⟩)
theorem pgT.up {T : Nat → Option (List Int32)} {wh : Nat} {pc : Nat → Nat} {sep : Int32} {r : List Int32} (h : pgT T wh pc sep r) {t : Nat} {s : Option (List Int32)} (htw : wh ≠ t) (htp : ∀ j, j < 12 → pc j ≠ t) : pgT (va_up T t s) wh pc sep r :=
  ⟨by rw [va_up_other _ _ _ htw]; exact h.1, fun j hj => by rw [va_up_other _ _ _ (htp j hj)]; exact h.2 j hj⟩
set_option maxRecDepth 100000 in
set_option maxHeartbeats 4000000 in
theorem k_fork (ht : tys[0]? = some (cC, .char)) (ht4 : tys[4]? = some (cT, .object RX10)) (hO : pgO f cT pg wh pa pc sep (nI (nfd sep r)) num) (hT : pgT T wh pc sep r) {op x0 y0 : Int32} (hfk : f fk = some (.inr (2, [.int op, .ref l1, .ref l2, .ref sc]))) (hl1 : f l1 = some (.inr (3, [.int x0]))) (hl2 : f l2 = some (.inr (3, [.int y0]))) (hx0 : okOp x0) (hy0 : okOp y0)
    (ht0 : T t = some v) (htw : wh ≠ t) (htp : ∀ j, j < 12 → pc j ≠ t) (hs0 : T sc = some u0) (hsw : wh ≠ sc) (hsp : ∀ j, j < 12 → pc j ≠ sc) (hst : sc ≠ t) :
    ct D tys z0 A (picF D cC A) l yX1_find wsX1_find (rmL 3 71) [.ref fk, .ref pg, .ref t] (f, T) (qI (picF D cC A) A (fun q x => x = (f, va_up (va_up T sc (some (opT sep r num y0))) t (some (exT op (opT sep r num x0) (opT sep r num y0)))) ∧ q = exF op (opT sep r num x0) (opT sep r num y0))) := by
  refine ct_of RX1 (by decide +kernel) rfl rfl (Nat.le_of_ble_eq_true rfl) ?_
  intro p e s m below meth c C hr hm
  refine v_lv (lv' := [(0, _), (1, _), (2, _)]) rfl ?_
  refine v_aload_n C dX1_find_0 (j := 0) rfl rfl ?_
  refine v_get C (T := TX1) (ci := 2) (j := 1) dX1_find_1 wiX1_find_X1 rfl (by decide) wfX1_find_20 (fun _ h => h) (FF_get hfk rfl) ?_
  refine v_aload_n C dX1_find_4 (j := 1) rfl rfl ?_
  refine v_aload_n C dX1_find_5 (j := 2) rfl rfl ?_
  refine v_ci (v_runV C (k_leaf ht ht4 hO hT hl1 hx0 ht0 htw htp) (cwV 2 C.1.2.2.2.2 gX1_find_X2_find rfl rfl rfl (by decide +kernel) ⟨Nat.le_of_ble_eq_true rfl, Nat.le_of_ble_eq_true rfl⟩) rfl rfl ((FF_get hl1 (k := 0) rfl).gC) dX1_find_6 (rest := []) (Nat.le_of_ble_eq_true rfl) rfl ⟨Nat.le_of_ble_eq_true rfl, Nat.le_of_ble_eq_true rfl⟩) (fun q x' hx' => ?_)
  obtain ⟨rfl, rfl⟩ := hx'
  refine v_aload_n C dX1_find_9 (j := 0) rfl rfl ?_
  refine v_get C (T := TX1) (ci := 2) (j := 2) dX1_find_10 wiX1_find_X1 rfl (by decide) wfX1_find_24 (fun _ h => h) (FF_get hfk rfl) ?_
  refine v_aload_n C dX1_find_13 (j := 1) rfl rfl ?_
  refine v_aload_n C dX1_find_14 (j := 0) rfl rfl ?_
  refine v_get C (T := TX1) (ci := 2) (j := 3) dX1_find_15 wiX1_find_X1 rfl (by decide) wfX1_find_10 (fun _ h => h) (FF_get hfk rfl) ?_
  refine v_ci (v_runV C (k_leaf ht ht4 hO (hT.up htw htp) hl2 hy0 (by rw [va_up_other _ _ _ hst]; exact hs0) hsw hsp) (cwV 2 C.1.2.2.2.2 gX1_find_X2_find rfl rfl rfl (by decide +kernel) ⟨Nat.le_of_ble_eq_true rfl, Nat.le_of_ble_eq_true rfl⟩) rfl rfl ((FF_get hl2 (k := 0) rfl).gC) dX1_find_18 (rest := [_]) (Nat.le_of_ble_eq_true rfl) rfl ⟨Nat.le_of_ble_eq_true rfl, Nat.le_of_ble_eq_true rfl⟩) (fun q x' hx' => ?_)
  obtain ⟨rfl, rfl⟩ := hx'
  refine v_iadd C dX1_find_21 ?_
  refine v_istore_n C dX1_find_22 rfl (by decide) (lv' := [(3, _), (0, _), (1, _), (2, _)]) rfl ?_
  refine v_iload_n C dX1_find_23 (j := 0) rfl rfl ?_
  refine v_aload_n C dX1_find_24 (j := 1) rfl rfl ?_
  refine v_get C (T := TX1) (ci := 2) (j := 0) dX1_find_25 wiX1_find_X1 rfl (by decide) wfX1_find_16 (fun _ h => h) (FF_get hfk rfl) ?_
  refine v_aload_n C dX1_find_28 (j := 3) rfl rfl ?_
  refine v_aload_n C dX1_find_29 (j := 1) rfl rfl ?_
  refine v_get C (T := TX1) (ci := 2) (j := 3) dX1_find_30 wiX1_find_X1 rfl (by decide) wfX1_find_10 (fun _ h => h) (FF_get hfk rfl) ?_
  refine v_ci (v_runSN C (k_combine ht (by rw [va_up_other _ _ _ (Ne.symm hst), va_up_same]) (by rw [va_up_same]) hst op) ⟨va_cnB 3 C.1.2.2.2.2 gX1_find_X11_combine_n33 rfl rfl rfl (v_nest C 2 rfl) (C.1.2.2.2.2 _ wwX1_find_in_X11_combine) (by decide +kernel) ⟨Nat.le_of_ble_eq_true rfl, Nat.le_of_ble_eq_true rfl⟩, C.1.2.2.2.2 _ wwX1_find_st_X11_combine, trivial⟩ rfl dX1_find_33 (rest := [_]) (Nat.le_of_ble_eq_true rfl) rfl ⟨Nat.le_of_ble_eq_true rfl, Nat.le_of_ble_eq_true rfl⟩) (fun q x' hx' => ?_)
  obtain ⟨rfl, rfl⟩ := hx'
  refine v_iadd C dX1_find_36 ?_
  exact v_ireturn C dX1_find_37 hr (rfl) (Nat.le_of_ble_eq_true rfl) (Nat.le_of_ble_eq_true rfl) (⟨by rw [up3], by simp⟩)
/-- an expression as the stack machine has it: the code of its two forms -/
def cdE (cI : ClassId) (op x0 y0 : Int32) : va_E := .inl (cI, if op = 0 then (2, .inl (upd (upd (fun _ => 0) 0 0) 1 x0)) else (6, .inl (upd (upd (upd (upd (upd (upd (fun _ => 0) 0 0) 1 x0) 2 0) 3 y0) 4 op) 5 0)))
/-- the value and the faults of an expression -/
def exV (sep : Int32) (r : List Int32) (num op x0 y0 : Int32) : List Int32 := if op = 0 then opT sep r num x0 else exT op (opT sep r num x0) (opT sep r num y0)
def exG (sep : Int32) (r : List Int32) (num op x0 y0 : Int32) : Int32 := if op = 0 then 0 else exF op (opT sep r num x0) (opT sep r num y0)
set_option maxRecDepth 100000 in
set_option maxHeartbeats 8000000 in
theorem k_run (ht : tys[0]? = some (cC, .char)) (ht1 : tys[1]? = some (cI, .int)) (ht4 : tys[4]? = some (cT, .object RX10)) (hO : pgO f cT pg wh pa pc sep (nI (nfd sep r)) num) (hT : pgT T wh pc sep r) {op x0 y0 : Int32} (hsm : f sm = some (.inr (8, [.ref sa]))) {sf : Nat → Option Nat} (hsa : f sa = some (.inl (cT, 2, .inr (.inr (.inr (.inr sf)))))) (hf1 : sf 0 = some s1) (hf2 : sf 1 = some s2)
    (hcd : f cd = some (cdE cI op x0 y0)) (hx0 : okOp x0) (hy0 : okOp y0) (ht0 : T t = some v) (h1 : T s1 = some u0) (h2 : T s2 = some s0) (h1w : wh ≠ s1) (h1p : ∀ j, j < 12 → pc j ≠ s1) (h2w : wh ≠ s2) (h2p : ∀ j, j < 12 → pc j ≠ s2) (h1t : s1 ≠ t) (h2t : s2 ≠ t) (h12 : s1 ≠ s2) :
    ct D tys z0 A (picF D cC A) l yX8_run wsX8_run (rmL 3 71) [.ref sm, .ref cd, .ref pg, .ref t] (f, T) (qI (picF D cC A) A (fun q x => ∃ T', x = (f, T') ∧ T' t = some (exV sep r num op x0 y0) ∧ (∀ q, q = s1 ∨ q = s2 → ∃ z, T' q = some z) ∧ (∀ q, q ≠ t → q ≠ s1 → q ≠ s2 → T' q = T q) ∧ q = exG sep r num op x0 y0)) := by
  refine ct_of RX8 (by decide +kernel) rfl rfl (Nat.le_of_ble_eq_true rfl) ?_
  intro p e s m below meth c C hr hm
  refine v_lv (lv' := [(0, _), (1, _), (2, _), (3, _)]) rfl ?_
  by_cases hop : op = 0
  · skip
    have hcd2 : f cd = some (.inl (cI, 2, .inl (upd (upd (fun _ => 0) 0 0) 1 x0))) := by rw [hcd]; unfold cdE; rw [if_pos hop]
    have e1 : exV sep r num op x0 y0 = opT sep r num x0 := by unfold exV; rw [if_pos hop]
    have e2 : exG sep r num op x0 y0 = 0 := by unfold exG; rw [if_pos hop]
    refine v_iconst C dX8_run_0 (v := 0) (by decide) ?_
    refine v_istore C dX8_run_1 (by decide) (lv' := [(4, _), (0, _), (1, _), (2, _), (3, _)]) rfl ?_
    refine v_iconst C dX8_run_3 (v := 0) (by decide) ?_
    refine v_istore C dX8_run_4 (by decide) (lv' := [(5, _), (4, _), (0, _), (1, _), (2, _), (3, _)]) rfl ?_
    refine v_iconst C dX8_run_6 (v := 0) (by decide) ?_
    refine v_istore C dX8_run_7 (by decide) (lv' := [(6, _), (5, _), (4, _), (0, _), (1, _), (2, _), (3, _)]) rfl ?_
    refine v_iload C dX8_run_9 (j := 0) rfl ?_
    refine v_iconst C dX8_run_11 (v := 1) (by decide) ?_
    refine v_iadd C dX8_run_12 ?_
    refine v_aload_n C dX8_run_13 (j := 4) rfl rfl ?_
    refine v_alen C (v := nI 2) dX8_run_14 1 ht1 (FF_arr hcd2) rfl ?_
    refine v_icmp_ge C 110 dX8_run_15 (by decide) (fun c1 => absurd c1 (by decide)) (fun c1 => ?_)
    refine v_aload_n C dX8_run_18 (j := 4) rfl rfl ?_
    refine v_iload C dX8_run_19 (j := 0) rfl ?_
    refine v_iald C dX8_run_21 1 ht1 (FF_arr hcd2) (vp_in_nI (n := 0) (by decide) (by decide)) ?_
    refine v_if_ne C 58 dX8_run_22 (by decide) (fun c2 => absurd c2 (fun z => z rfl)) (fun c2 => ?_)
    refine v_iload C dX8_run_25 (j := 2) rfl ?_
    refine v_aload_n C dX8_run_27 (j := 3) rfl rfl ?_
    refine v_get C (T := TX8) (ci := 8) (j := 0) dX8_run_28 wiX8_run_X8 rfl (by decide) wfX8_run_13 (fun _ h => h) (FF_get hsm rfl) ?_
    refine v_alen C (v := nI 2) dX8_run_31 4 ht4 (FF_arr hsa) rfl ?_
    refine v_icmp_ge C 58 dX8_run_32 (by decide) (fun c3 => absurd c3 (by decide)) (fun c3 => ?_)
    refine v_aload_n C dX8_run_35 (j := 5) rfl rfl ?_
    refine v_aload_n C dX8_run_36 (j := 4) rfl rfl ?_
    refine v_iload C dX8_run_37 (j := 0) rfl ?_
    refine v_iconst C dX8_run_39 (v := 1) (by decide) ?_
    refine v_iadd C dX8_run_40 ?_
    refine v_iald C dX8_run_41 1 ht1 (FF_arr hcd2) (vp_in_nI (n := 1) (by decide) (by decide)) ?_
    refine v_aload_n C dX8_run_42 (j := 3) rfl rfl ?_
    refine v_get C (T := TX8) (ci := 8) (j := 0) dX8_run_43 wiX8_run_X8 rfl (by decide) wfX8_run_13 (fun _ h => h) (FF_get hsm rfl) ?_
    refine v_iload C dX8_run_46 (j := 2) rfl ?_
    refine v_aald C dX8_run_48 4 ht4 (FF_arr hsa) (vp_in_nI (n := 0) (by decide) (by decide)) hf1 ?_
    refine v_eq (w := .ref s1) rfl ?_
    refine v_cv (v_runV C (k_load ht ht4 hO hT (x0 := x0) hx0 h1 h1w h1p) (cwV 2 C.1.2.2.2.2 gX8_run_X4_load rfl rfl rfl (by decide +kernel) ⟨Nat.le_of_ble_eq_true rfl, Nat.le_of_ble_eq_true rfl⟩) rfl rfl ((FF_get hO.1 (k := 0) rfl).gC) dX8_run_49 (rest := []) (Nat.le_of_ble_eq_true rfl) rfl ⟨Nat.le_of_ble_eq_true rfl, Nat.le_of_ble_eq_true rfl⟩) (fun x' hx' => ?_)
    subst hx'
    refine v_iinc C dX8_run_52 (j := 2) (v := _ + 1) rfl rfl (by decide) (lv' := [(4, _), (6, _), (5, _), (0, _), (1, _), (2, _), (3, _)]) rfl ?_
    refine v_goto C 104 dX8_run_55 (by decide) ?_
    refine v_iinc C dX8_run_104 (j := 1) (v := _ + 2) rfl rfl (by decide) (lv' := [(6, _), (4, _), (5, _), (0, _), (1, _), (2, _), (3, _)]) rfl ?_
    refine v_goto C 9 dX8_run_107 (by decide) ?_
    refine v_iload C dX8_run_9 (j := 0) rfl ?_
    refine v_iconst C dX8_run_11 (v := 1) (by decide) ?_
    refine v_iadd C dX8_run_12 ?_
    refine v_aload_n C dX8_run_13 (j := 4) rfl rfl ?_
    refine v_alen C (v := nI 2) dX8_run_14 1 ht1 (FF_arr hcd2) rfl ?_
    refine v_icmp_ge C 110 dX8_run_15 (by decide) (fun c4 => ?_) (fun c4 => absurd c4 (fun z => z (by decide)))
    refine v_iload C dX8_run_110 (j := 1) rfl ?_
    refine v_if_le C 128 dX8_run_112 (by decide) (fun c5 => absurd c5 (by decide)) (fun c5 => ?_)
    refine v_aload_n C dX8_run_115 (j := 6) rfl rfl ?_
    refine v_aload_n C dX8_run_116 (j := 3) rfl rfl ?_
    refine v_get C (T := TX8) (ci := 8) (j := 0) dX8_run_117 wiX8_run_X8 rfl (by decide) wfX8_run_13 (fun _ h => h) (FF_get hsm rfl) ?_
    refine v_iload C dX8_run_120 (j := 1) rfl ?_
    refine v_iconst C dX8_run_122 (v := 1) (by decide) ?_
    refine v_isub C dX8_run_123 ?_
    refine v_aald C dX8_run_124 4 ht4 (FF_arr hsa) (vp_in_nI (n := 0) (by decide) (by decide)) hf1 ?_
    refine v_eq (w := .ref s1) rfl ?_
    refine v_cv (v_runV C (k_copy ht (show va_up T s1 (some (opT sep r num x0)) t = some v by rw [va_up_other _ _ _ (Ne.symm h1t)]; exact ht0) (va_up_same _ _ _) h1t) (cwV 1 C.1.2.2.2.2 gX8_run_X10_copy rfl rfl rfl (by decide +kernel) ⟨Nat.le_of_ble_eq_true rfl, Nat.le_of_ble_eq_true rfl⟩) rfl rfl (FF_txt (T := va_up T s1 (some (opT sep r num x0))) (show va_up T s1 _ t = some v by rw [va_up_other _ _ _ (Ne.symm h1t)]; exact ht0)) dX8_run_125 (rest := []) (Nat.le_of_ble_eq_true rfl) rfl ⟨Nat.le_of_ble_eq_true rfl, Nat.le_of_ble_eq_true rfl⟩) (fun x' hx' => ?_)
    subst hx'
    refine v_iload C dX8_run_128 (j := 2) rfl ?_
    exact v_ireturn C dX8_run_130 hr (rfl) (Nat.le_of_ble_eq_true rfl) (Nat.le_of_ble_eq_true rfl) (⟨_, rfl, by rw [va_up_same, e1], fun q hq => hq.elim (fun hq => by rw [hq]; exact ⟨_, by rw [va_up_other _ _ _ h1t, va_up_same]⟩) (fun hq => by rw [hq]; exact ⟨s0, by rw [va_up_other _ _ _ h2t, va_up_other _ _ _ (Ne.symm h12)]; exact h2⟩), fun q q1 q2 q3 => by rw [va_up_other _ _ _ q1, va_up_other _ _ _ q2], e2.symm⟩)
  · skip
    have hcd2 : f cd = some (.inl (cI, 6, .inl (upd (upd (upd (upd (upd (upd (fun _ => 0) 0 0) 1 x0) 2 0) 3 y0) 4 op) 5 0))) := by rw [hcd]; unfold cdE; rw [if_neg hop]
    have e1 : exV sep r num op x0 y0 = exT op (opT sep r num x0) (opT sep r num y0) := by unfold exV; rw [if_neg hop]
    have e2 : exG sep r num op x0 y0 = exF op (opT sep r num x0) (opT sep r num y0) := by unfold exG; rw [if_neg hop]
    refine v_iconst C dX8_run_0 (v := 0) (by decide) ?_
    refine v_istore C dX8_run_1 (by decide) (lv' := [(4, _), (0, _), (1, _), (2, _), (3, _)]) rfl ?_
    refine v_iconst C dX8_run_3 (v := 0) (by decide) ?_
    refine v_istore C dX8_run_4 (by decide) (lv' := [(5, _), (4, _), (0, _), (1, _), (2, _), (3, _)]) rfl ?_
    refine v_iconst C dX8_run_6 (v := 0) (by decide) ?_
    refine v_istore C dX8_run_7 (by decide) (lv' := [(6, _), (5, _), (4, _), (0, _), (1, _), (2, _), (3, _)]) rfl ?_
    refine v_iload C dX8_run_9 (j := 0) rfl ?_
    refine v_iconst C dX8_run_11 (v := 1) (by decide) ?_
    refine v_iadd C dX8_run_12 ?_
    refine v_aload_n C dX8_run_13 (j := 4) rfl rfl ?_
    refine v_alen C (v := nI 6) dX8_run_14 1 ht1 (FF_arr hcd2) rfl ?_
    refine v_icmp_ge C 110 dX8_run_15 (by decide) (fun c1 => absurd c1 (by decide)) (fun c1 => ?_)
    refine v_aload_n C dX8_run_18 (j := 4) rfl rfl ?_
    refine v_iload C dX8_run_19 (j := 0) rfl ?_
    refine v_iald C dX8_run_21 1 ht1 (FF_arr hcd2) (vp_in_nI (n := 0) (by decide) (by decide)) ?_
    refine v_if_ne C 58 dX8_run_22 (by decide) (fun c2 => absurd c2 (fun z => z rfl)) (fun c2 => ?_)
    refine v_iload C dX8_run_25 (j := 2) rfl ?_
    refine v_aload_n C dX8_run_27 (j := 3) rfl rfl ?_
    refine v_get C (T := TX8) (ci := 8) (j := 0) dX8_run_28 wiX8_run_X8 rfl (by decide) wfX8_run_13 (fun _ h => h) (FF_get hsm rfl) ?_
    refine v_alen C (v := nI 2) dX8_run_31 4 ht4 (FF_arr hsa) rfl ?_
    refine v_icmp_ge C 58 dX8_run_32 (by decide) (fun c3 => absurd c3 (by decide)) (fun c3 => ?_)
    refine v_aload_n C dX8_run_35 (j := 5) rfl rfl ?_
    refine v_aload_n C dX8_run_36 (j := 4) rfl rfl ?_
    refine v_iload C dX8_run_37 (j := 0) rfl ?_
    refine v_iconst C dX8_run_39 (v := 1) (by decide) ?_
    refine v_iadd C dX8_run_40 ?_
    refine v_iald C dX8_run_41 1 ht1 (FF_arr hcd2) (vp_in_nI (n := 1) (by decide) (by decide)) ?_
    refine v_aload_n C dX8_run_42 (j := 3) rfl rfl ?_
    refine v_get C (T := TX8) (ci := 8) (j := 0) dX8_run_43 wiX8_run_X8 rfl (by decide) wfX8_run_13 (fun _ h => h) (FF_get hsm rfl) ?_
    refine v_iload C dX8_run_46 (j := 2) rfl ?_
    refine v_aald C dX8_run_48 4 ht4 (FF_arr hsa) (vp_in_nI (n := 0) (by decide) (by decide)) hf1 ?_
    refine v_eq (w := .ref s1) rfl ?_
    refine v_cv (v_runV C (k_load ht ht4 hO hT (x0 := x0) hx0 h1 h1w h1p) (cwV 2 C.1.2.2.2.2 gX8_run_X4_load rfl rfl rfl (by decide +kernel) ⟨Nat.le_of_ble_eq_true rfl, Nat.le_of_ble_eq_true rfl⟩) rfl rfl ((FF_get hO.1 (k := 0) rfl).gC) dX8_run_49 (rest := []) (Nat.le_of_ble_eq_true rfl) rfl ⟨Nat.le_of_ble_eq_true rfl, Nat.le_of_ble_eq_true rfl⟩) (fun x' hx' => ?_)
    subst hx'
    refine v_iinc C dX8_run_52 (j := 2) (v := _ + 1) rfl rfl (by decide) (lv' := [(4, _), (6, _), (5, _), (0, _), (1, _), (2, _), (3, _)]) rfl ?_
    refine v_goto C 104 dX8_run_55 (by decide) ?_
    refine v_iinc C dX8_run_104 (j := 1) (v := _ + 2) rfl rfl (by decide) (lv' := [(6, _), (4, _), (5, _), (0, _), (1, _), (2, _), (3, _)]) rfl ?_
    refine v_goto C 9 dX8_run_107 (by decide) ?_
    refine v_iload C dX8_run_9 (j := 0) rfl ?_
    refine v_iconst C dX8_run_11 (v := 1) (by decide) ?_
    refine v_iadd C dX8_run_12 ?_
    refine v_aload_n C dX8_run_13 (j := 4) rfl rfl ?_
    refine v_alen C (v := nI 6) dX8_run_14 1 ht1 (FF_arr hcd2) rfl ?_
    refine v_icmp_ge C 110 dX8_run_15 (by decide) (fun c4 => absurd c4 (by decide)) (fun c4 => ?_)
    refine v_aload_n C dX8_run_18 (j := 4) rfl rfl ?_
    refine v_iload C dX8_run_19 (j := 0) rfl ?_
    refine v_iald C dX8_run_21 1 ht1 (FF_arr hcd2) (vp_in_nI (n := 2) (by decide) (by decide)) ?_
    refine v_if_ne C 58 dX8_run_22 (by decide) (fun c5 => absurd c5 (fun z => z rfl)) (fun c5 => ?_)
    refine v_iload C dX8_run_25 (j := 1) rfl ?_
    refine v_aload_n C dX8_run_27 (j := 3) rfl rfl ?_
    refine v_get C (T := TX8) (ci := 8) (j := 0) dX8_run_28 wiX8_run_X8 rfl (by decide) wfX8_run_13 (fun _ h => h) (FF_get hsm rfl) ?_
    refine v_alen C (v := nI 2) dX8_run_31 4 ht4 (FF_arr hsa) rfl ?_
    refine v_icmp_ge C 58 dX8_run_32 (by decide) (fun c6 => absurd c6 (by decide)) (fun c6 => ?_)
    refine v_aload_n C dX8_run_35 (j := 5) rfl rfl ?_
    refine v_aload_n C dX8_run_36 (j := 4) rfl rfl ?_
    refine v_iload C dX8_run_37 (j := 0) rfl ?_
    refine v_iconst C dX8_run_39 (v := 1) (by decide) ?_
    refine v_iadd C dX8_run_40 ?_
    refine v_iald C dX8_run_41 1 ht1 (FF_arr hcd2) (vp_in_nI (n := 3) (by decide) (by decide)) ?_
    refine v_aload_n C dX8_run_42 (j := 3) rfl rfl ?_
    refine v_get C (T := TX8) (ci := 8) (j := 0) dX8_run_43 wiX8_run_X8 rfl (by decide) wfX8_run_13 (fun _ h => h) (FF_get hsm rfl) ?_
    refine v_iload C dX8_run_46 (j := 1) rfl ?_
    refine v_aald C dX8_run_48 4 ht4 (FF_arr hsa) (vp_in_nI (n := 1) (by decide) (by decide)) hf2 ?_
    refine v_eq (w := .ref s2) rfl ?_
    refine v_cv (v_runV C (k_load ht ht4 hO (hT.up h1w h1p) (x0 := y0) hy0 (show va_up T s1 (some (opT sep r num x0)) s2 = some s0 by rw [va_up_other _ _ _ (Ne.symm h12)]; exact h2) h2w h2p) (cwV 2 C.1.2.2.2.2 gX8_run_X4_load rfl rfl rfl (by decide +kernel) ⟨Nat.le_of_ble_eq_true rfl, Nat.le_of_ble_eq_true rfl⟩) rfl rfl ((FF_get hO.1 (k := 0) rfl).gC) dX8_run_49 (rest := []) (Nat.le_of_ble_eq_true rfl) rfl ⟨Nat.le_of_ble_eq_true rfl, Nat.le_of_ble_eq_true rfl⟩) (fun x' hx' => ?_)
    subst hx'
    refine v_iinc C dX8_run_52 (j := 1) (v := _ + 1) rfl rfl (by decide) (lv' := [(4, _), (6, _), (5, _), (0, _), (1, _), (2, _), (3, _)]) rfl ?_
    refine v_goto C 104 dX8_run_55 (by decide) ?_
    refine v_iinc C dX8_run_104 (j := 1) (v := _ + 2) rfl rfl (by decide) (lv' := [(6, _), (4, _), (5, _), (0, _), (1, _), (2, _), (3, _)]) rfl ?_
    refine v_goto C 9 dX8_run_107 (by decide) ?_
    refine v_iload C dX8_run_9 (j := 0) rfl ?_
    refine v_iconst C dX8_run_11 (v := 1) (by decide) ?_
    refine v_iadd C dX8_run_12 ?_
    refine v_aload_n C dX8_run_13 (j := 4) rfl rfl ?_
    refine v_alen C (v := nI 6) dX8_run_14 1 ht1 (FF_arr hcd2) rfl ?_
    refine v_icmp_ge C 110 dX8_run_15 (by decide) (fun c7 => absurd c7 (by decide)) (fun c7 => ?_)
    refine v_aload_n C dX8_run_18 (j := 4) rfl rfl ?_
    refine v_iload C dX8_run_19 (j := 0) rfl ?_
    refine v_iald C dX8_run_21 1 ht1 (FF_arr hcd2) (vp_in_nI (n := 4) (by decide) (by decide)) ?_
    refine v_if_ne C 58 dX8_run_22 (by decide) (fun c8 => ?_) (fun c8 => absurd c8 (fun z => hop z))
    refine v_aload_n C dX8_run_58 (j := 4) rfl rfl ?_
    refine v_iload C dX8_run_59 (j := 0) rfl ?_
    refine v_iald C dX8_run_61 1 ht1 (FF_arr hcd2) (vp_in_nI (n := 4) (by decide) (by decide)) ?_
    refine v_if_eq C 104 dX8_run_62 (by decide) (fun c9 => absurd c9 (fun z => hop z)) (fun c9 => ?_)
    refine v_iload C dX8_run_65 (j := 1) rfl ?_
    refine v_iconst C dX8_run_67 (v := 2) (by decide) ?_
    refine v_icmp_lt C 104 dX8_run_68 (by decide) (fun d1 => absurd d1 (by decide)) (fun d1 => ?_)
    refine v_iload C dX8_run_71 (j := 2) rfl ?_
    refine v_aload_n C dX8_run_73 (j := 4) rfl rfl ?_
    refine v_iload C dX8_run_74 (j := 0) rfl ?_
    refine v_iald C dX8_run_76 1 ht1 (FF_arr hcd2) (vp_in_nI (n := 4) (by decide) (by decide)) ?_
    refine v_aload_n C dX8_run_77 (j := 3) rfl rfl ?_
    refine v_get C (T := TX8) (ci := 8) (j := 0) dX8_run_78 wiX8_run_X8 rfl (by decide) wfX8_run_13 (fun _ h => h) (FF_get hsm rfl) ?_
    refine v_iload C dX8_run_81 (j := 1) rfl ?_
    refine v_iconst C dX8_run_83 (v := 2) (by decide) ?_
    refine v_isub C dX8_run_84 ?_
    refine v_aald C dX8_run_85 4 ht4 (FF_arr hsa) (vp_in_nI (n := 0) (by decide) (by decide)) hf1 ?_
    refine v_eq (w := .ref s1) rfl ?_
    refine v_aload_n C dX8_run_86 (j := 3) rfl rfl ?_
    refine v_get C (T := TX8) (ci := 8) (j := 0) dX8_run_87 wiX8_run_X8 rfl (by decide) wfX8_run_13 (fun _ h => h) (FF_get hsm rfl) ?_
    refine v_iload C dX8_run_90 (j := 1) rfl ?_
    refine v_iconst C dX8_run_92 (v := 1) (by decide) ?_
    refine v_isub C dX8_run_93 ?_
    refine v_aald C dX8_run_94 4 ht4 (FF_arr hsa) (vp_in_nI (n := 1) (by decide) (by decide)) hf2 ?_
    refine v_eq (w := .ref s2) rfl ?_
    refine v_ci (v_runSN C (k_combine ht (show va_up (va_up T s1 (some (opT sep r num x0))) s2 (some (opT sep r num y0)) s1 = some (opT sep r num x0) by rw [va_up_other _ _ _ h12, va_up_same]) (va_up_same _ _ _) (Ne.symm h12) op) ⟨va_cnB 3 C.1.2.2.2.2 gX8_run_X11_combine_n24 rfl rfl rfl (v_nest C 9 rfl) (C.1.2.2.2.2 _ wwX8_run_in_X11_combine) (by decide +kernel) ⟨Nat.le_of_ble_eq_true rfl, Nat.le_of_ble_eq_true rfl⟩, C.1.2.2.2.2 _ wwX8_run_st_X11_combine, trivial⟩ rfl dX8_run_95 (rest := [_]) (Nat.le_of_ble_eq_true rfl) rfl ⟨Nat.le_of_ble_eq_true rfl, Nat.le_of_ble_eq_true rfl⟩) (fun q x' hx' => ?_)
    obtain ⟨rfl, rfl⟩ := hx'
    refine v_iadd C dX8_run_98 ?_
    refine v_istore C dX8_run_99 (by decide) (lv' := [(5, _), (6, _), (4, _), (0, _), (1, _), (2, _), (3, _)]) rfl ?_
    refine v_iinc C dX8_run_101 (j := 2) (v := _ + (-1)) rfl rfl (by decide) (lv' := [(4, _), (5, _), (6, _), (0, _), (1, _), (2, _), (3, _)]) rfl ?_
    refine v_iinc C dX8_run_104 (j := 2) (v := _ + 2) rfl rfl (by decide) (lv' := [(6, _), (4, _), (5, _), (0, _), (1, _), (2, _), (3, _)]) rfl ?_
    refine v_goto C 9 dX8_run_107 (by decide) ?_
    refine v_iload C dX8_run_9 (j := 0) rfl ?_
    refine v_iconst C dX8_run_11 (v := 1) (by decide) ?_
    refine v_iadd C dX8_run_12 ?_
    refine v_aload_n C dX8_run_13 (j := 4) rfl rfl ?_
    refine v_alen C (v := nI 6) dX8_run_14 1 ht1 (FF_arr hcd2) rfl ?_
    refine v_icmp_ge C 110 dX8_run_15 (by decide) (fun d2 => ?_) (fun d2 => absurd d2 (fun z => z (by decide)))
    refine v_iload C dX8_run_110 (j := 1) rfl ?_
    refine v_if_le C 128 dX8_run_112 (by decide) (fun d3 => absurd d3 (by decide)) (fun d3 => ?_)
    refine v_aload_n C dX8_run_115 (j := 6) rfl rfl ?_
    refine v_aload_n C dX8_run_116 (j := 3) rfl rfl ?_
    refine v_get C (T := TX8) (ci := 8) (j := 0) dX8_run_117 wiX8_run_X8 rfl (by decide) wfX8_run_13 (fun _ h => h) (FF_get hsm rfl) ?_
    refine v_iload C dX8_run_120 (j := 1) rfl ?_
    refine v_iconst C dX8_run_122 (v := 1) (by decide) ?_
    refine v_isub C dX8_run_123 ?_
    refine v_aald C dX8_run_124 4 ht4 (FF_arr hsa) (vp_in_nI (n := 0) (by decide) (by decide)) hf1 ?_
    refine v_eq (w := .ref s1) rfl ?_
    have hTt : va_up (va_up (va_up T s1 (some (opT sep r num x0))) s2 (some (opT sep r num y0))) s1 (some (exT op (opT sep r num x0) (opT sep r num y0))) t = some v := by rw [va_up_other _ _ _ (Ne.symm h1t), va_up_other _ _ _ (Ne.symm h2t), va_up_other _ _ _ (Ne.symm h1t)]; exact ht0
    refine v_cv (v_runV C (k_copy ht hTt (va_up_same _ _ _) h1t) (cwV 1 C.1.2.2.2.2 gX8_run_X10_copy rfl rfl rfl (by decide +kernel) ⟨Nat.le_of_ble_eq_true rfl, Nat.le_of_ble_eq_true rfl⟩) rfl rfl (FF_txt hTt) dX8_run_125 (rest := []) (Nat.le_of_ble_eq_true rfl) rfl ⟨Nat.le_of_ble_eq_true rfl, Nat.le_of_ble_eq_true rfl⟩) (fun x' hx' => ?_)
    subst hx'
    refine v_iload C dX8_run_128 (j := 2) rfl ?_
    exact v_ireturn C dX8_run_130 hr (rfl) (Nat.le_of_ble_eq_true rfl) (Nat.le_of_ble_eq_true rfl) (⟨_, rfl, by rw [va_up_same, e1], fun q hq => hq.elim (fun hq => by rw [hq]; exact ⟨_, by rw [va_up_other _ _ _ h1t, va_up_same]⟩) (fun hq => by rw [hq]; exact ⟨_, by rw [va_up_other _ _ _ h2t, va_up_other _ _ _ (Ne.symm h12), va_up_same]⟩), fun q q1 q2 q3 => by rw [va_up_other _ _ _ q1, va_up_other _ _ _ q2, va_up_other _ _ _ q3, va_up_other _ _ _ q2], by rw [e2]; simp⟩)
end EX
